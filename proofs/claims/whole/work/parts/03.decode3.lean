theorem dX11_meets_14 : decode cX11_meets 14 = .ok (.ldc 52, 2) := by decide +kernel
theorem dX11_meets_16 : decode cX11_meets 16 = .ok (.ireturn, 1) := by decide +kernel
theorem dX11_meets_17 : decode cX11_meets 17 = .ok (.aload_n 0, 1) := by decide +kernel
theorem dX11_meets_18 : decode cX11_meets 18 = .ok (.getfield 10, 3) := by decide +kernel
theorem dX11_meets_21 : decode cX11_meets 21 = .ok (.getfield 55, 3) := by decide +kernel
theorem dX11_meets_24 : decode cX11_meets 24 = .ok (.iload_n 1, 1) := by decide +kernel
theorem dX11_meets_25 : decode cX11_meets 25 = .ok (.i2l, 1) := by decide +kernel
theorem dX11_meets_26 : decode cX11_meets 26 = .ok (.iconst 0, 1) := by decide +kernel
theorem dX11_meets_27 : decode cX11_meets 27 = .ok (.invokevirtual 266, 3) := by decide +kernel
theorem dX11_meets_30 : decode cX11_meets 30 = .ok (.lstore_n 2, 1) := by decide +kernel
theorem dX11_meets_31 : decode cX11_meets 31 = .ok (.aload_n 0, 1) := by decide +kernel
theorem dX11_meets_32 : decode cX11_meets 32 = .ok (.getfield 10, 3) := by decide +kernel
theorem dX11_meets_35 : decode cX11_meets 35 = .ok (.getfield 55, 3) := by decide +kernel
theorem dX11_meets_38 : decode cX11_meets 38 = .ok (.iload_n 1, 1) := by decide +kernel
theorem dX11_meets_39 : decode cX11_meets 39 = .ok (.i2l, 1) := by decide +kernel
theorem dX11_meets_40 : decode cX11_meets 40 = .ok (.iconst 1, 1) := by decide +kernel
theorem dX11_meets_41 : decode cX11_meets 41 = .ok (.invokevirtual 266, 3) := by decide +kernel
theorem dX11_meets_44 : decode cX11_meets 44 = .ok (.lstore 4, 2) := by decide +kernel
theorem dX11_meets_46 : decode cX11_meets 46 = .ok (.aload_n 0, 1) := by decide +kernel
theorem dX11_meets_47 : decode cX11_meets 47 = .ok (.getfield 10, 3) := by decide +kernel
theorem dX11_meets_50 : decode cX11_meets 50 = .ok (.getfield 55, 3) := by decide +kernel
theorem dX11_meets_53 : decode cX11_meets 53 = .ok (.iload_n 1, 1) := by decide +kernel
theorem dX11_meets_54 : decode cX11_meets 54 = .ok (.i2l, 1) := by decide +kernel
theorem dX11_meets_55 : decode cX11_meets 55 = .ok (.iconst 2, 1) := by decide +kernel
theorem dX11_meets_56 : decode cX11_meets 56 = .ok (.invokevirtual 266, 3) := by decide +kernel
theorem dX11_meets_59 : decode cX11_meets 59 = .ok (.lstore 6, 2) := by decide +kernel
theorem dX11_meets_61 : decode cX11_meets 61 = .ok (.aload_n 0, 1) := by decide +kernel
theorem dX11_meets_62 : decode cX11_meets 62 = .ok (.getfield 10, 3) := by decide +kernel
theorem dX11_meets_65 : decode cX11_meets 65 = .ok (.getfield 55, 3) := by decide +kernel
theorem dX11_meets_68 : decode cX11_meets 68 = .ok (.iload_n 1, 1) := by decide +kernel
theorem dX11_meets_69 : decode cX11_meets 69 = .ok (.i2l, 1) := by decide +kernel
theorem dX11_meets_70 : decode cX11_meets 70 = .ok (.iconst 3, 1) := by decide +kernel
theorem dX11_meets_71 : decode cX11_meets 71 = .ok (.invokevirtual 266, 3) := by decide +kernel
theorem dX11_meets_74 : decode cX11_meets 74 = .ok (.lstore 8, 2) := by decide +kernel
theorem dX11_meets_76 : decode cX11_meets 76 = .ok (.iconst 0, 1) := by decide +kernel
theorem dX11_meets_77 : decode cX11_meets 77 = .ok (.istore 10, 2) := by decide +kernel
theorem dX11_meets_79 : decode cX11_meets 79 = .ok (.iconst 0, 1) := by decide +kernel
theorem dX11_meets_80 : decode cX11_meets 80 = .ok (.istore 11, 2) := by decide +kernel
theorem dX11_meets_82 : decode cX11_meets 82 = .ok (.ldc2_w 262, 3) := by decide +kernel
theorem dX11_meets_85 : decode cX11_meets 85 = .ok (.lstore 12, 2) := by decide +kernel
theorem dX11_meets_87 : decode cX11_meets 87 = .ok (.lload 12, 2) := by decide +kernel
theorem dX11_meets_89 : decode cX11_meets 89 = .ok (.ldc2_w 264, 3) := by decide +kernel
theorem dX11_meets_92 : decode cX11_meets 92 = .ok (.lcmp, 1) := by decide +kernel
theorem dX11_meets_93 : decode cX11_meets 93 = .ok (.ifCond .gt 78, 3) := by decide +kernel
theorem dX11_meets_96 : decode cX11_meets 96 = .ok (.lload_n 2, 1) := by decide +kernel
theorem dX11_meets_97 : decode cX11_meets 97 = .ok (.lload 12, 2) := by decide +kernel
theorem dX11_meets_99 : decode cX11_meets 99 = .ok (.lload 4, 2) := by decide +kernel
theorem dX11_meets_101 : decode cX11_meets 101 = .ok (.lload 12, 2) := by decide +kernel
theorem dX11_meets_103 : decode cX11_meets 103 = .ok (.lload 6, 2) := by decide +kernel
theorem dX11_meets_105 : decode cX11_meets 105 = .ok (.lload 12, 2) := by decide +kernel
theorem dX11_meets_107 : decode cX11_meets 107 = .ok (.lload 8, 2) := by decide +kernel
theorem dX11_meets_109 : decode cX11_meets 109 = .ok (.lmul, 1) := by decide +kernel
theorem dX11_meets_110 : decode cX11_meets 110 = .ok (.ladd, 1) := by decide +kernel
theorem dX11_meets_111 : decode cX11_meets 111 = .ok (.lmul, 1) := by decide +kernel
theorem dX11_meets_112 : decode cX11_meets 112 = .ok (.ladd, 1) := by decide +kernel
theorem dX11_meets_113 : decode cX11_meets 113 = .ok (.lmul, 1) := by decide +kernel
theorem dX11_meets_114 : decode cX11_meets 114 = .ok (.ladd, 1) := by decide +kernel
theorem dX11_meets_115 : decode cX11_meets 115 = .ok (.lstore 14, 2) := by decide +kernel
theorem dX11_meets_117 : decode cX11_meets 117 = .ok (.lload 14, 2) := by decide +kernel
theorem dX11_meets_119 : decode cX11_meets 119 = .ok (.lconst 0, 1) := by decide +kernel
theorem dX11_meets_120 : decode cX11_meets 120 = .ok (.lcmp, 1) := by decide +kernel
theorem dX11_meets_121 : decode cX11_meets 121 = .ok (.ifCond .le 7, 3) := by decide +kernel
theorem dX11_meets_124 : decode cX11_meets 124 = .ok (.iconst 1, 1) := by decide +kernel
theorem dX11_meets_125 : decode cX11_meets 125 = .ok (.goto 15, 3) := by decide +kernel
theorem dX11_meets_128 : decode cX11_meets 128 = .ok (.lload 14, 2) := by decide +kernel
theorem dX11_meets_130 : decode cX11_meets 130 = .ok (.lconst 0, 1) := by decide +kernel
theorem dX11_meets_131 : decode cX11_meets 131 = .ok (.lcmp, 1) := by decide +kernel
theorem dX11_meets_132 : decode cX11_meets 132 = .ok (.ifCond .ge 7, 3) := by decide +kernel
theorem dX11_meets_135 : decode cX11_meets 135 = .ok (.iconst (-1), 1) := by decide +kernel
theorem dX11_meets_136 : decode cX11_meets 136 = .ok (.goto 4, 3) := by decide +kernel
theorem dX11_meets_139 : decode cX11_meets 139 = .ok (.iconst 0, 1) := by decide +kernel
theorem dX11_meets_140 : decode cX11_meets 140 = .ok (.istore 16, 2) := by decide +kernel
theorem dX11_meets_142 : decode cX11_meets 142 = .ok (.iload 16, 2) := by decide +kernel
theorem dX11_meets_144 : decode cX11_meets 144 = .ok (.iload 11, 2) := by decide +kernel
theorem dX11_meets_146 : decode cX11_meets 146 = .ok (.imul, 1) := by decide +kernel
theorem dX11_meets_147 : decode cX11_meets 147 = .ok (.ifCond .ge 6, 3) := by decide +kernel
theorem dX11_meets_150 : decode cX11_meets 150 = .ok (.iinc 10 1, 3) := by decide +kernel
theorem dX11_meets_153 : decode cX11_meets 153 = .ok (.iload 16, 2) := by decide +kernel
theorem dX11_meets_155 : decode cX11_meets 155 = .ok (.ifCond .eq 7, 3) := by decide +kernel
theorem dX11_meets_158 : decode cX11_meets 158 = .ok (.iload 16, 2) := by decide +kernel
theorem dX11_meets_160 : decode cX11_meets 160 = .ok (.istore 11, 2) := by decide +kernel
theorem dX11_meets_162 : decode cX11_meets 162 = .ok (.lload 12, 2) := by decide +kernel
theorem dX11_meets_164 : decode cX11_meets 164 = .ok (.lconst 1, 1) := by decide +kernel
theorem dX11_meets_165 : decode cX11_meets 165 = .ok (.ladd, 1) := by decide +kernel
theorem dX11_meets_166 : decode cX11_meets 166 = .ok (.lstore 12, 2) := by decide +kernel
theorem dX11_meets_168 : decode cX11_meets 168 = .ok (.goto (-81), 3) := by decide +kernel
theorem dX11_meets_171 : decode cX11_meets 171 = .ok (.iload 10, 2) := by decide +kernel
theorem dX11_meets_173 : decode cX11_meets 173 = .ok (.ireturn, 1) := by decide +kernel
theorem dX11_lengthBits_0 : decode cX11_lengthBits 0 = .ok (.aload_n 0, 1) := by decide +kernel
theorem dX11_lengthBits_1 : decode cX11_lengthBits 1 = .ok (.getfield 10, 3) := by decide +kernel
theorem dX11_lengthBits_4 : decode cX11_lengthBits 4 = .ok (.getfield 70, 3) := by decide +kernel
theorem dX11_lengthBits_7 : decode cX11_lengthBits 7 = .ok (.iload_n 1, 1) := by decide +kernel
theorem dX11_lengthBits_8 : decode cX11_lengthBits 8 = .ok (.invokevirtual 163, 3) := by decide +kernel
theorem dX11_lengthBits_11 : decode cX11_lengthBits 11 = .ok (.astore_n 2, 1) := by decide +kernel
theorem dX11_lengthBits_12 : decode cX11_lengthBits 12 = .ok (.aload_n 2, 1) := by decide +kernel
theorem dX11_lengthBits_13 : decode cX11_lengthBits 13 = .ok (.ifnonnull 8, 3) := by decide +kernel
theorem dX11_lengthBits_16 : decode cX11_lengthBits 16 = .ok (.ldc 52, 2) := by decide +kernel
theorem dX11_lengthBits_18 : decode cX11_lengthBits 18 = .ok (.goto 10, 3) := by decide +kernel
theorem dX11_lengthBits_21 : decode cX11_lengthBits 21 = .ok (.aload_n 2, 1) := by decide +kernel
theorem dX11_lengthBits_22 : decode cX11_lengthBits 22 = .ok (.invokevirtual 270, 3) := by decide +kernel
theorem dX11_lengthBits_25 : decode cX11_lengthBits 25 = .ok (.invokestatic 273, 3) := by decide +kernel
theorem dX11_lengthBits_28 : decode cX11_lengthBits 28 = .ok (.ireturn, 1) := by decide +kernel
theorem dX11_nearest_0 : decode cX11_nearest 0 = .ok (.aload_n 0, 1) := by decide +kernel
theorem dX11_nearest_1 : decode cX11_nearest 1 = .ok (.getfield 10, 3) := by decide +kernel
theorem dX11_nearest_4 : decode cX11_nearest 4 = .ok (.getfield 70, 3) := by decide +kernel
theorem dX11_nearest_7 : decode cX11_nearest 7 = .ok (.iload_n 1, 1) := by decide +kernel
theorem dX11_nearest_8 : decode cX11_nearest 8 = .ok (.invokevirtual 163, 3) := by decide +kernel
theorem dX11_nearest_11 : decode cX11_nearest 11 = .ok (.astore 4, 2) := by decide +kernel
theorem dX11_nearest_13 : decode cX11_nearest 13 = .ok (.aload 4, 2) := by decide +kernel
theorem dX11_nearest_15 : decode cX11_nearest 15 = .ok (.ifnull 13, 3) := by decide +kernel
theorem dX11_nearest_18 : decode cX11_nearest 18 = .ok (.iload_n 2, 1) := by decide +kernel
theorem dX11_nearest_19 : decode cX11_nearest 19 = .ok (.i2l, 1) := by decide +kernel
theorem dX11_nearest_20 : decode cX11_nearest 20 = .ok (.iload_n 3, 1) := by decide +kernel
theorem dX11_nearest_21 : decode cX11_nearest 21 = .ok (.i2l, 1) := by decide +kernel
theorem dX11_nearest_22 : decode cX11_nearest 22 = .ok (.invokestatic 109, 3) := by decide +kernel
theorem dX11_nearest_25 : decode cX11_nearest 25 = .ok (.ifCond .ne 6, 3) := by decide +kernel
theorem dX11_nearest_28 : decode cX11_nearest 28 = .ok (.ldc 52, 2) := by decide +kernel
theorem dX11_nearest_30 : decode cX11_nearest 30 = .ok (.ireturn, 1) := by decide +kernel
theorem dX11_nearest_31 : decode cX11_nearest 31 = .ok (.aload 4, 2) := by decide +kernel
theorem dX11_nearest_33 : decode cX11_nearest 33 = .ok (.iload_n 2, 1) := by decide +kernel
theorem dX11_nearest_34 : decode cX11_nearest 34 = .ok (.i2l, 1) := by decide +kernel
theorem dX11_nearest_35 : decode cX11_nearest 35 = .ok (.iload_n 3, 1) := by decide +kernel
theorem dX11_nearest_36 : decode cX11_nearest 36 = .ok (.i2l, 1) := by decide +kernel
theorem dX11_nearest_37 : decode cX11_nearest 37 = .ok (.invokevirtual 276, 3) := by decide +kernel
theorem dX11_nearest_40 : decode cX11_nearest 40 = .ok (.ireturn, 1) := by decide +kernel
theorem dX11_undo_0 : decode cX11_undo 0 = .ok (.aload_n 0, 1) := by decide +kernel
theorem dX11_undo_1 : decode cX11_undo 1 = .ok (.getfield 19, 3) := by decide +kernel
theorem dX11_undo_4 : decode cX11_undo 4 = .ok (.getfield 258, 3) := by decide +kernel
theorem dX11_undo_7 : decode cX11_undo 7 = .ok (.ifCond .ne 6, 3) := by decide +kernel
theorem dX11_undo_10 : decode cX11_undo 10 = .ok (.ldc 91, 2) := by decide +kernel
theorem dX11_undo_12 : decode cX11_undo 12 = .ok (.ireturn, 1) := by decide +kernel
theorem dX11_undo_13 : decode cX11_undo 13 = .ok (.aload_n 0, 1) := by decide +kernel
theorem dX11_undo_14 : decode cX11_undo 14 = .ok (.getfield 19, 3) := by decide +kernel
theorem dX11_undo_17 : decode cX11_undo 17 = .ok (.aload_n 0, 1) := by decide +kernel
theorem dX11_undo_18 : decode cX11_undo 18 = .ok (.getfield 10, 3) := by decide +kernel
theorem dX11_undo_21 : decode cX11_undo 21 = .ok (.invokevirtual 280, 3) := by decide +kernel
theorem dX11_undo_24 : decode cX11_undo 24 = .ok (.aload_n 0, 1) := by decide +kernel
theorem dX11_undo_25 : decode cX11_undo 25 = .ok (.getfield 19, 3) := by decide +kernel
theorem dX11_undo_28 : decode cX11_undo 28 = .ok (.getfield 258, 3) := by decide +kernel
theorem dX11_undo_31 : decode cX11_undo 31 = .ok (.ireturn, 1) := by decide +kernel
theorem dX11_type_0 : decode cX11_type 0 = .ok (.iload_n 1, 1) := by decide +kernel
theorem dX11_type_1 : decode cX11_type 1 = .ok (.i2l, 1) := by decide +kernel
theorem dX11_type_2 : decode cX11_type 2 = .ok (.ldc2_w 283, 3) := by decide +kernel
theorem dX11_type_5 : decode cX11_type 5 = .ok (.ldc2_w 285, 3) := by decide +kernel
theorem dX11_type_8 : decode cX11_type 8 = .ok (.invokestatic 48, 3) := by decide +kernel
theorem dX11_type_11 : decode cX11_type 11 = .ok (.ifCond .ne 6, 3) := by decide +kernel
theorem dX11_type_14 : decode cX11_type 14 = .ok (.ldc 52, 2) := by decide +kernel
theorem dX11_type_16 : decode cX11_type 16 = .ok (.ireturn, 1) := by decide +kernel
theorem dX11_type_17 : decode cX11_type 17 = .ok (.aload_n 0, 1) := by decide +kernel
theorem dX11_type_18 : decode cX11_type 18 = .ok (.getfield 33, 3) := by decide +kernel
theorem dX11_type_21 : decode cX11_type 21 = .ok (.invokevirtual 287, 3) := by decide +kernel
theorem dX11_type_24 : decode cX11_type 24 = .ok (.ifCond .eq 6, 3) := by decide +kernel
theorem dX11_type_27 : decode cX11_type 27 = .ok (.ldc 65, 2) := by decide +kernel
theorem dX11_type_29 : decode cX11_type 29 = .ok (.ireturn, 1) := by decide +kernel
theorem dX11_type_30 : decode cX11_type 30 = .ok (.aload_n 0, 1) := by decide +kernel
theorem dX11_type_31 : decode cX11_type 31 = .ok (.getfield 33, 3) := by decide +kernel
theorem dX11_type_34 : decode cX11_type 34 = .ok (.iload_n 1, 1) := by decide +kernel
theorem dX11_type_35 : decode cX11_type 35 = .ok (.invokevirtual 288, 3) := by decide +kernel
theorem dX11_type_38 : decode cX11_type 38 = .ok (.aload_n 0, 1) := by decide +kernel
theorem dX11_type_39 : decode cX11_type 39 = .ok (.getfield 33, 3) := by decide +kernel
theorem dX11_type_42 : decode cX11_type 42 = .ok (.getfield 259, 3) := by decide +kernel
theorem dX11_type_45 : decode cX11_type 45 = .ok (.ireturn, 1) := by decide +kernel
theorem dX11_clearText_0 : decode cX11_clearText 0 = .ok (.aload_n 0, 1) := by decide +kernel
theorem dX11_clearText_1 : decode cX11_clearText 1 = .ok (.getfield 33, 3) := by decide +kernel
theorem dX11_clearText_4 : decode cX11_clearText 4 = .ok (.getfield 259, 3) := by decide +kernel
theorem dX11_clearText_7 : decode cX11_clearText 7 = .ok (.istore_n 1, 1) := by decide +kernel
theorem dX11_clearText_8 : decode cX11_clearText 8 = .ok (.aload_n 0, 1) := by decide +kernel
theorem dX11_clearText_9 : decode cX11_clearText 9 = .ok (.getfield 33, 3) := by decide +kernel
theorem dX11_clearText_12 : decode cX11_clearText 12 = .ok (.iconst 0, 1) := by decide +kernel
theorem dX11_clearText_13 : decode cX11_clearText 13 = .ok (.putfield 259, 3) := by decide +kernel
theorem dX11_clearText_16 : decode cX11_clearText 16 = .ok (.iload_n 1, 1) := by decide +kernel
theorem dX11_clearText_17 : decode cX11_clearText 17 = .ok (.ireturn, 1) := by decide +kernel
theorem dX11_fault_0 : decode cX11_fault 0 = .ok (.iload_n 1, 1) := by decide +kernel
theorem dX11_fault_1 : decode cX11_fault 1 = .ok (.i2l, 1) := by decide +kernel
theorem dX11_fault_2 : decode cX11_fault 2 = .ok (.lconst 0, 1) := by decide +kernel
theorem dX11_fault_3 : decode cX11_fault 3 = .ok (.lconst 1, 1) := by decide +kernel
theorem dX11_fault_4 : decode cX11_fault 4 = .ok (.invokestatic 48, 3) := by decide +kernel
theorem dX11_fault_7 : decode cX11_fault 7 = .ok (.ifCond .ne 6, 3) := by decide +kernel
theorem dX11_fault_10 : decode cX11_fault 10 = .ok (.ldc 52, 2) := by decide +kernel
theorem dX11_fault_12 : decode cX11_fault 12 = .ok (.ireturn, 1) := by decide +kernel
theorem dX11_fault_13 : decode cX11_fault 13 = .ok (.aload_n 0, 1) := by decide +kernel
theorem dX11_fault_14 : decode cX11_fault 14 = .ok (.getfield 40, 3) := by decide +kernel
theorem dX11_fault_17 : decode cX11_fault 17 = .ok (.aload_n 0, 1) := by decide +kernel
theorem dX11_fault_18 : decode cX11_fault 18 = .ok (.getfield 33, 3) := by decide +kernel
theorem dX11_fault_21 : decode cX11_fault 21 = .ok (.invokevirtual 291, 3) := by decide +kernel
theorem dX11_fault_24 : decode cX11_fault 24 = .ok (.aload_n 0, 1) := by decide +kernel
theorem dX11_fault_25 : decode cX11_fault 25 = .ok (.getfield 40, 3) := by decide +kernel
theorem dX11_fault_28 : decode cX11_fault 28 = .ok (.getfield 295, 3) := by decide +kernel
theorem dX11_fault_31 : decode cX11_fault 31 = .ok (.ifCond .ne 6, 3) := by decide +kernel
theorem dX11_fault_34 : decode cX11_fault 34 = .ok (.ldc 98, 2) := by decide +kernel
theorem dX11_fault_36 : decode cX11_fault 36 = .ok (.ireturn, 1) := by decide +kernel
theorem dX11_fault_37 : decode cX11_fault 37 = .ok (.iload_n 1, 1) := by decide +kernel
theorem dX11_fault_38 : decode cX11_fault 38 = .ok (.ifCond .ne 13, 3) := by decide +kernel
theorem dX11_fault_41 : decode cX11_fault 41 = .ok (.aload_n 0, 1) := by decide +kernel
theorem dX11_fault_42 : decode cX11_fault 42 = .ok (.getfield 40, 3) := by decide +kernel
theorem dX11_fault_45 : decode cX11_fault 45 = .ok (.getfield 298, 3) := by decide +kernel
theorem dX11_fault_48 : decode cX11_fault 48 = .ok (.goto 10, 3) := by decide +kernel
theorem dX11_fault_51 : decode cX11_fault 51 = .ok (.aload_n 0, 1) := by decide +kernel
theorem dX11_fault_52 : decode cX11_fault 52 = .ok (.getfield 40, 3) := by decide +kernel
theorem dX11_fault_55 : decode cX11_fault 55 = .ok (.getfield 295, 3) := by decide +kernel
theorem dX11_fault_58 : decode cX11_fault 58 = .ok (.ireturn, 1) := by decide +kernel
theorem dX11_read_0 : decode cX11_read 0 = .ok (.aload_n 0, 1) := by decide +kernel
theorem dX11_read_1 : decode cX11_read 1 = .ok (.getfield 40, 3) := by decide +kernel
theorem dX11_read_4 : decode cX11_read 4 = .ok (.aload_n 0, 1) := by decide +kernel
theorem dX11_read_5 : decode cX11_read 5 = .ok (.getfield 33, 3) := by decide +kernel
theorem dX11_read_8 : decode cX11_read 8 = .ok (.invokevirtual 291, 3) := by decide +kernel
theorem dX11_read_11 : decode cX11_read 11 = .ok (.aload_n 0, 1) := by decide +kernel
theorem dX11_read_12 : decode cX11_read 12 = .ok (.getfield 40, 3) := by decide +kernel
theorem dX11_read_15 : decode cX11_read 15 = .ok (.getfield 295, 3) := by decide +kernel
theorem dX11_read_18 : decode cX11_read 18 = .ok (.ifCond .eq 6, 3) := by decide +kernel
theorem dX11_read_21 : decode cX11_read 21 = .ok (.ldc 91, 2) := by decide +kernel
theorem dX11_read_23 : decode cX11_read 23 = .ok (.ireturn, 1) := by decide +kernel
theorem dX11_read_24 : decode cX11_read 24 = .ok (.aload_n 0, 1) := by decide +kernel
theorem dX11_read_25 : decode cX11_read 25 = .ok (.getfield 19, 3) := by decide +kernel
theorem dX11_read_28 : decode cX11_read 28 = .ok (.aload_n 0, 1) := by decide +kernel
theorem dX11_read_29 : decode cX11_read 29 = .ok (.getfield 10, 3) := by decide +kernel
theorem dX11_read_32 : decode cX11_read 32 = .ok (.invokevirtual 66, 3) := by decide +kernel
theorem dX11_read_35 : decode cX11_read 35 = .ok (.aload_n 0, 1) := by decide +kernel
theorem dX11_read_36 : decode cX11_read 36 = .ok (.getfield 10, 3) := by decide +kernel
theorem dX11_read_39 : decode cX11_read 39 = .ok (.getfield 70, 3) := by decide +kernel
theorem dX11_read_42 : decode cX11_read 42 = .ok (.invokevirtual 74, 3) := by decide +kernel
theorem dX11_read_45 : decode cX11_read 45 = .ok (.aload_n 0, 1) := by decide +kernel
theorem dX11_read_46 : decode cX11_read 46 = .ok (.getfield 10, 3) := by decide +kernel
theorem dX11_read_49 : decode cX11_read 49 = .ok (.getfield 55, 3) := by decide +kernel
theorem dX11_read_52 : decode cX11_read 52 = .ok (.aload_n 0, 1) := by decide +kernel
theorem dX11_read_53 : decode cX11_read 53 = .ok (.getfield 40, 3) := by decide +kernel
theorem dX11_read_56 : decode cX11_read 56 = .ok (.getfield 301, 3) := by decide +kernel
theorem dX11_read_59 : decode cX11_read 59 = .ok (.invokevirtual 302, 3) := by decide +kernel
theorem dX11_read_62 : decode cX11_read 62 = .ok (.aload_n 0, 1) := by decide +kernel
theorem dX11_read_63 : decode cX11_read 63 = .ok (.getfield 10, 3) := by decide +kernel
theorem dX11_read_66 : decode cX11_read 66 = .ok (.getfield 55, 3) := by decide +kernel
theorem dX11_read_69 : decode cX11_read 69 = .ok (.getfield 83, 3) := by decide +kernel
theorem dX11_read_72 : decode cX11_read 72 = .ok (.ireturn, 1) := by decide +kernel
theorem dX11_isWithin_0 : decode cX11_isWithin 0 = .ok (.lload_n 0, 1) := by decide +kernel
theorem dX11_isWithin_1 : decode cX11_isWithin 1 = .ok (.lload_n 2, 1) := by decide +kernel
theorem dX11_isWithin_2 : decode cX11_isWithin 2 = .ok (.lcmp, 1) := by decide +kernel
theorem dX11_isWithin_3 : decode cX11_isWithin 3 = .ok (.ifCond .lt 14, 3) := by decide +kernel
theorem dX11_isWithin_6 : decode cX11_isWithin 6 = .ok (.lload_n 0, 1) := by decide +kernel
theorem dX11_isWithin_7 : decode cX11_isWithin 7 = .ok (.lload 4, 2) := by decide +kernel
theorem dX11_isWithin_9 : decode cX11_isWithin 9 = .ok (.lcmp, 1) := by decide +kernel
theorem dX11_isWithin_10 : decode cX11_isWithin 10 = .ok (.ifCond .gt 7, 3) := by decide +kernel
theorem dX11_isWithin_13 : decode cX11_isWithin 13 = .ok (.iconst 1, 1) := by decide +kernel
theorem dX11_isWithin_14 : decode cX11_isWithin 14 = .ok (.goto 4, 3) := by decide +kernel
theorem dX11_isWithin_17 : decode cX11_isWithin 17 = .ok (.iconst 0, 1) := by decide +kernel
theorem dX11_isWithin_18 : decode cX11_isWithin 18 = .ok (.ireturn, 1) := by decide +kernel
theorem dX11_isPlace_0 : decode cX11_isPlace 0 = .ok (.lload_n 0, 1) := by decide +kernel
theorem dX11_isPlace_1 : decode cX11_isPlace 1 = .ok (.ldc2_w 262, 3) := by decide +kernel
theorem dX11_isPlace_4 : decode cX11_isPlace 4 = .ok (.ldc2_w 264, 3) := by decide +kernel
theorem dX11_isPlace_7 : decode cX11_isPlace 7 = .ok (.invokestatic 48, 3) := by decide +kernel
theorem dX11_isPlace_10 : decode cX11_isPlace 10 = .ok (.ifCond .eq 20, 3) := by decide +kernel
theorem dX11_isPlace_13 : decode cX11_isPlace 13 = .ok (.lload_n 2, 1) := by decide +kernel
theorem dX11_isPlace_14 : decode cX11_isPlace 14 = .ok (.ldc2_w 262, 3) := by decide +kernel
theorem dX11_isPlace_17 : decode cX11_isPlace 17 = .ok (.ldc2_w 264, 3) := by decide +kernel
theorem dX11_isPlace_20 : decode cX11_isPlace 20 = .ok (.invokestatic 48, 3) := by decide +kernel
theorem dX11_isPlace_23 : decode cX11_isPlace 23 = .ok (.ifCond .eq 7, 3) := by decide +kernel
theorem dX11_isPlace_26 : decode cX11_isPlace 26 = .ok (.iconst 1, 1) := by decide +kernel
theorem dX11_isPlace_27 : decode cX11_isPlace 27 = .ok (.goto 4, 3) := by decide +kernel
theorem dX11_isPlace_30 : decode cX11_isPlace 30 = .ok (.iconst 0, 1) := by decide +kernel
theorem dX11_isPlace_31 : decode cX11_isPlace 31 = .ok (.ireturn, 1) := by decide +kernel
theorem dX11_isSign_0 : decode cX11_isSign 0 = .ok (.iload_n 0, 1) := by decide +kernel
theorem dX11_isSign_1 : decode cX11_isSign 1 = .ok (.iconst 1, 1) := by decide +kernel
theorem dX11_isSign_2 : decode cX11_isSign 2 = .ok (.if_icmp .eq 8, 3) := by decide +kernel
theorem dX11_isSign_5 : decode cX11_isSign 5 = .ok (.iload_n 0, 1) := by decide +kernel
theorem dX11_isSign_6 : decode cX11_isSign 6 = .ok (.iconst (-1), 1) := by decide +kernel
theorem dX11_isSign_7 : decode cX11_isSign 7 = .ok (.if_icmp .ne 7, 3) := by decide +kernel
theorem dX11_isSign_10 : decode cX11_isSign 10 = .ok (.iconst 1, 1) := by decide +kernel
theorem dX11_isSign_11 : decode cX11_isSign 11 = .ok (.goto 4, 3) := by decide +kernel
theorem dX11_isSign_14 : decode cX11_isSign 14 = .ok (.iconst 0, 1) := by decide +kernel
theorem dX11_isSign_15 : decode cX11_isSign 15 = .ok (.ireturn, 1) := by decide +kernel
theorem dX11_power_0 : decode cX11_power 0 = .ok (.lconst 1, 1) := by decide +kernel
theorem dX11_power_1 : decode cX11_power 1 = .ok (.lstore_n 3, 1) := by decide +kernel
theorem dX11_power_2 : decode cX11_power 2 = .ok (.iconst 0, 1) := by decide +kernel
theorem dX11_power_3 : decode cX11_power 3 = .ok (.istore 5, 2) := by decide +kernel
theorem dX11_power_5 : decode cX11_power 5 = .ok (.iload 5, 2) := by decide +kernel
theorem dX11_power_7 : decode cX11_power 7 = .ok (.iload_n 2, 1) := by decide +kernel
theorem dX11_power_8 : decode cX11_power 8 = .ok (.if_icmp .ge 13, 3) := by decide +kernel
theorem dX11_power_11 : decode cX11_power 11 = .ok (.lload_n 3, 1) := by decide +kernel
theorem dX11_power_12 : decode cX11_power 12 = .ok (.lload_n 0, 1) := by decide +kernel
theorem dX11_power_13 : decode cX11_power 13 = .ok (.lmul, 1) := by decide +kernel
theorem dX11_power_14 : decode cX11_power 14 = .ok (.lstore_n 3, 1) := by decide +kernel
theorem dX11_power_15 : decode cX11_power 15 = .ok (.iinc 5 1, 3) := by decide +kernel
theorem dX11_power_18 : decode cX11_power 18 = .ok (.goto (-13), 3) := by decide +kernel
theorem dX11_power_21 : decode cX11_power 21 = .ok (.lload_n 3, 1) := by decide +kernel
theorem dX11_power_22 : decode cX11_power 22 = .ok (.lreturn, 1) := by decide +kernel
theorem dX11_rootOf_0 : decode cX11_rootOf 0 = .ok (.lconst 0, 1) := by decide +kernel
theorem dX11_rootOf_1 : decode cX11_rootOf 1 = .ok (.lstore_n 2, 1) := by decide +kernel
theorem dX11_rootOf_2 : decode cX11_rootOf 2 = .ok (.ldc2_w 306, 3) := by decide +kernel
theorem dX11_rootOf_5 : decode cX11_rootOf 5 = .ok (.lstore 4, 2) := by decide +kernel
theorem dX11_rootOf_7 : decode cX11_rootOf 7 = .ok (.lload 4, 2) := by decide +kernel
theorem dX11_rootOf_9 : decode cX11_rootOf 9 = .ok (.lconst 0, 1) := by decide +kernel
theorem dX11_rootOf_10 : decode cX11_rootOf 10 = .ok (.lcmp, 1) := by decide +kernel
theorem dX11_rootOf_11 : decode cX11_rootOf 11 = .ok (.ifCond .le 31, 3) := by decide +kernel
theorem dX11_rootOf_14 : decode cX11_rootOf 14 = .ok (.lload_n 2, 1) := by decide +kernel
theorem dX11_rootOf_15 : decode cX11_rootOf 15 = .ok (.lload 4, 2) := by decide +kernel
theorem dX11_rootOf_17 : decode cX11_rootOf 17 = .ok (.ladd, 1) := by decide +kernel
theorem dX11_rootOf_18 : decode cX11_rootOf 18 = .ok (.lstore 6, 2) := by decide +kernel
theorem dX11_rootOf_20 : decode cX11_rootOf 20 = .ok (.lload 6, 2) := by decide +kernel
theorem dX11_rootOf_22 : decode cX11_rootOf 22 = .ok (.lload 6, 2) := by decide +kernel
theorem dX11_rootOf_24 : decode cX11_rootOf 24 = .ok (.lmul, 1) := by decide +kernel
theorem dX11_rootOf_25 : decode cX11_rootOf 25 = .ok (.lload_n 0, 1) := by decide +kernel
theorem dX11_rootOf_26 : decode cX11_rootOf 26 = .ok (.lcmp, 1) := by decide +kernel
theorem dX11_rootOf_27 : decode cX11_rootOf 27 = .ok (.ifCond .gt 6, 3) := by decide +kernel
theorem dX11_rootOf_30 : decode cX11_rootOf 30 = .ok (.lload 6, 2) := by decide +kernel
theorem dX11_rootOf_32 : decode cX11_rootOf 32 = .ok (.lstore_n 2, 1) := by decide +kernel
theorem dX11_rootOf_33 : decode cX11_rootOf 33 = .ok (.lload 4, 2) := by decide +kernel
theorem dX11_rootOf_35 : decode cX11_rootOf 35 = .ok (.iconst 1, 1) := by decide +kernel
theorem dX11_rootOf_36 : decode cX11_rootOf 36 = .ok (.lshr, 1) := by decide +kernel
theorem dX11_rootOf_37 : decode cX11_rootOf 37 = .ok (.lstore 4, 2) := by decide +kernel
theorem dX11_rootOf_39 : decode cX11_rootOf 39 = .ok (.goto (-32), 3) := by decide +kernel
theorem dX11_rootOf_42 : decode cX11_rootOf 42 = .ok (.lload_n 2, 1) := by decide +kernel
theorem dX11_rootOf_43 : decode cX11_rootOf 43 = .ok (.lreturn, 1) := by decide +kernel
theorem dX11_bitsOfParts_0 : decode cX11_bitsOfParts 0 = .ok (.iload_n 0, 1) := by decide +kernel
theorem dX11_bitsOfParts_1 : decode cX11_bitsOfParts 1 = .ok (.ifCond .gt 5, 3) := by decide +kernel
theorem dX11_bitsOfParts_4 : decode cX11_bitsOfParts 4 = .ok (.iconst 0, 1) := by decide +kernel
theorem dX11_bitsOfParts_5 : decode cX11_bitsOfParts 5 = .ok (.ireturn, 1) := by decide +kernel
theorem dX11_bitsOfParts_6 : decode cX11_bitsOfParts 6 = .ok (.iconst 0, 1) := by decide +kernel
theorem dX11_bitsOfParts_7 : decode cX11_bitsOfParts 7 = .ok (.istore_n 1, 1) := by decide +kernel
theorem dX11_bitsOfParts_8 : decode cX11_bitsOfParts 8 = .ok (.iload_n 1, 1) := by decide +kernel
theorem dX11_bitsOfParts_9 : decode cX11_bitsOfParts 9 = .ok (.bipush 23, 2) := by decide +kernel
theorem dX11_bitsOfParts_11 : decode cX11_bitsOfParts 11 = .ok (.if_icmp .ge 16, 3) := by decide +kernel
theorem dX11_bitsOfParts_14 : decode cX11_bitsOfParts 14 = .ok (.iload_n 0, 1) := by decide +kernel
theorem dX11_bitsOfParts_15 : decode cX11_bitsOfParts 15 = .ok (.iload_n 1, 1) := by decide +kernel
theorem dX11_bitsOfParts_16 : decode cX11_bitsOfParts 16 = .ok (.ishr, 1) := by decide +kernel
theorem dX11_bitsOfParts_17 : decode cX11_bitsOfParts 17 = .ok (.iconst 1, 1) := by decide +kernel
theorem dX11_bitsOfParts_18 : decode cX11_bitsOfParts 18 = .ok (.if_icmp .le 9, 3) := by decide +kernel
theorem dX11_bitsOfParts_21 : decode cX11_bitsOfParts 21 = .ok (.iinc 1 1, 3) := by decide +kernel
theorem dX11_bitsOfParts_24 : decode cX11_bitsOfParts 24 = .ok (.goto (-16), 3) := by decide +kernel
theorem dX11_bitsOfParts_27 : decode cX11_bitsOfParts 27 = .ok (.iload_n 0, 1) := by decide +kernel
theorem dX11_bitsOfParts_28 : decode cX11_bitsOfParts 28 = .ok (.bipush 23, 2) := by decide +kernel
theorem dX11_bitsOfParts_30 : decode cX11_bitsOfParts 30 = .ok (.iload_n 1, 1) := by decide +kernel
theorem dX11_bitsOfParts_31 : decode cX11_bitsOfParts 31 = .ok (.isub, 1) := by decide +kernel
theorem dX11_bitsOfParts_32 : decode cX11_bitsOfParts 32 = .ok (.ishl, 1) := by decide +kernel
theorem dX11_bitsOfParts_33 : decode cX11_bitsOfParts 33 = .ok (.ldc_w 308, 3) := by decide +kernel
theorem dX11_bitsOfParts_36 : decode cX11_bitsOfParts 36 = .ok (.iand, 1) := by decide +kernel
theorem dX11_bitsOfParts_37 : decode cX11_bitsOfParts 37 = .ok (.istore_n 2, 1) := by decide +kernel
theorem dX11_bitsOfParts_38 : decode cX11_bitsOfParts 38 = .ok (.bipush 127, 2) := by decide +kernel
theorem dX11_bitsOfParts_40 : decode cX11_bitsOfParts 40 = .ok (.iload_n 1, 1) := by decide +kernel
theorem dX11_bitsOfParts_41 : decode cX11_bitsOfParts 41 = .ok (.iadd, 1) := by decide +kernel
theorem dX11_bitsOfParts_42 : decode cX11_bitsOfParts 42 = .ok (.bipush 8, 2) := by decide +kernel
theorem dX11_bitsOfParts_44 : decode cX11_bitsOfParts 44 = .ok (.isub, 1) := by decide +kernel
theorem dX11_bitsOfParts_45 : decode cX11_bitsOfParts 45 = .ok (.bipush 23, 2) := by decide +kernel
theorem dX11_bitsOfParts_47 : decode cX11_bitsOfParts 47 = .ok (.ishl, 1) := by decide +kernel
theorem dX11_bitsOfParts_48 : decode cX11_bitsOfParts 48 = .ok (.iload_n 2, 1) := by decide +kernel
theorem dX11_bitsOfParts_49 : decode cX11_bitsOfParts 49 = .ok (.ior, 1) := by decide +kernel
theorem dX11_bitsOfParts_50 : decode cX11_bitsOfParts 50 = .ok (.ireturn, 1) := by decide +kernel
theorem dX12_init_0 : decode cX12_init 0 = .ok (.aload_n 0, 1) := by decide +kernel
theorem dX12_init_1 : decode cX12_init 1 = .ok (.invokespecial 1, 3) := by decide +kernel
theorem dX12_init_4 : decode cX12_init 4 = .ok (.aload_n 0, 1) := by decide +kernel
theorem dX12_init_5 : decode cX12_init 5 = .ok (.sipush 853, 3) := by decide +kernel
theorem dX12_init_8 : decode cX12_init 8 = .ok (.newarray .int, 2) := by decide +kernel
theorem dX12_init_10 : decode cX12_init 10 = .ok (.putfield 7, 3) := by decide +kernel
theorem dX12_init_13 : decode cX12_init 13 = .ok (.aload_n 0, 1) := by decide +kernel
theorem dX12_init_14 : decode cX12_init 14 = .ok (.sipush 853, 3) := by decide +kernel
theorem dX12_init_17 : decode cX12_init 17 = .ok (.newarray .int, 2) := by decide +kernel
theorem dX12_init_19 : decode cX12_init 19 = .ok (.putfield 13, 3) := by decide +kernel
theorem dX12_init_22 : decode cX12_init 22 = .ok (.aload_n 0, 1) := by decide +kernel
theorem dX12_init_23 : decode cX12_init 23 = .ok (.sipush 3412, 3) := by decide +kernel
theorem dX12_init_26 : decode cX12_init 26 = .ok (.newarray .int, 2) := by decide +kernel
theorem dX12_init_28 : decode cX12_init 28 = .ok (.putfield 16, 3) := by decide +kernel
theorem dX12_init_31 : decode cX12_init 31 = .ok (.aload_n 0, 1) := by decide +kernel
theorem dX12_init_32 : decode cX12_init 32 = .ok (.bipush 60, 2) := by decide +kernel
theorem dX12_init_34 : decode cX12_init 34 = .ok (.newarray .int, 2) := by decide +kernel
theorem dX12_init_36 : decode cX12_init 36 = .ok (.putfield 19, 3) := by decide +kernel
theorem dX12_init_39 : decode cX12_init 39 = .ok (.aload_n 0, 1) := by decide +kernel
theorem dX12_init_40 : decode cX12_init 40 = .ok (.iconst 5, 1) := by decide +kernel
theorem dX12_init_41 : decode cX12_init 41 = .ok (.newarray .int, 2) := by decide +kernel
theorem dX12_init_43 : decode cX12_init 43 = .ok (.putfield 22, 3) := by decide +kernel
theorem dX12_init_46 : decode cX12_init 46 = .ok (.aload_n 0, 1) := by decide +kernel
theorem dX12_init_47 : decode cX12_init 47 = .ok (.getfield 7, 3) := by decide +kernel
theorem dX12_init_50 : decode cX12_init 50 = .ok (.iconst 2, 1) := by decide +kernel
theorem dX12_init_51 : decode cX12_init 51 = .ok (.bipush 16, 2) := by decide +kernel
theorem dX12_init_53 : decode cX12_init 53 = .ok (.iastore, 1) := by decide +kernel
theorem dX12_init_54 : decode cX12_init 54 = .ok (.aload_n 0, 1) := by decide +kernel
theorem dX12_init_55 : decode cX12_init 55 = .ok (.getfield 7, 3) := by decide +kernel
theorem dX12_init_58 : decode cX12_init 58 = .ok (.iconst 3, 1) := by decide +kernel
theorem dX12_init_59 : decode cX12_init 59 = .ok (.bipush 64, 2) := by decide +kernel
theorem dX12_init_61 : decode cX12_init 61 = .ok (.iastore, 1) := by decide +kernel
theorem dX12_init_62 : decode cX12_init 62 = .ok (.aload_n 0, 1) := by decide +kernel
theorem dX12_init_63 : decode cX12_init 63 = .ok (.getfield 7, 3) := by decide +kernel
theorem dX12_init_66 : decode cX12_init 66 = .ok (.iconst 4, 1) := by decide +kernel
theorem dX12_init_67 : decode cX12_init 67 = .ok (.bipush 8, 2) := by decide +kernel
theorem dX12_init_69 : decode cX12_init 69 = .ok (.iastore, 1) := by decide +kernel
theorem dX12_init_70 : decode cX12_init 70 = .ok (.return_, 1) := by decide +kernel
theorem dX12_in_0 : decode cX12_in 0 = .ok (.iload_n 0, 1) := by decide +kernel
theorem dX12_in_1 : decode cX12_in 1 = .ok (.iload_n 1, 1) := by decide +kernel
theorem dX12_in_2 : decode cX12_in 2 = .ok (.if_icmp .lt 12, 3) := by decide +kernel
theorem dX12_in_5 : decode cX12_in 5 = .ok (.iload_n 0, 1) := by decide +kernel
theorem dX12_in_6 : decode cX12_in 6 = .ok (.iload_n 2, 1) := by decide +kernel
theorem dX12_in_7 : decode cX12_in 7 = .ok (.if_icmp .gt 7, 3) := by decide +kernel
theorem dX12_in_10 : decode cX12_in 10 = .ok (.iconst 1, 1) := by decide +kernel
theorem dX12_in_11 : decode cX12_in 11 = .ok (.goto 4, 3) := by decide +kernel
theorem dX12_in_14 : decode cX12_in 14 = .ok (.iconst 0, 1) := by decide +kernel
theorem dX12_in_15 : decode cX12_in 15 = .ok (.ireturn, 1) := by decide +kernel
theorem dX12_isIn_0 : decode cX12_isIn 0 = .ok (.iload_n 0, 1) := by decide +kernel
theorem dX12_isIn_1 : decode cX12_isIn 1 = .ok (.sipush (-1024), 3) := by decide +kernel
theorem dX12_isIn_4 : decode cX12_isIn 4 = .ok (.sipush 1024, 3) := by decide +kernel
theorem dX12_isIn_7 : decode cX12_isIn 7 = .ok (.invokestatic 25, 3) := by decide +kernel
theorem dX12_isIn_10 : decode cX12_isIn 10 = .ok (.ireturn, 1) := by decide +kernel
theorem dX12_begins_0 : decode cX12_begins 0 = .ok (.iconst 0, 1) := by decide +kernel
theorem dX12_begins_1 : decode cX12_begins 1 = .ok (.istore_n 1, 1) := by decide +kernel
theorem dX12_begins_2 : decode cX12_begins 2 = .ok (.iload_n 1, 1) := by decide +kernel
theorem dX12_begins_3 : decode cX12_begins 3 = .ok (.sipush 853, 3) := by decide +kernel
theorem dX12_begins_6 : decode cX12_begins 6 = .ok (.if_icmp .ge 21, 3) := by decide +kernel
theorem dX12_begins_9 : decode cX12_begins 9 = .ok (.aload_n 0, 1) := by decide +kernel
theorem dX12_begins_10 : decode cX12_begins 10 = .ok (.getfield 13, 3) := by decide +kernel
theorem dX12_begins_13 : decode cX12_begins 13 = .ok (.iload_n 1, 1) := by decide +kernel
theorem dX12_begins_14 : decode cX12_begins 14 = .ok (.aload_n 0, 1) := by decide +kernel
theorem dX12_begins_15 : decode cX12_begins 15 = .ok (.getfield 7, 3) := by decide +kernel
theorem dX12_begins_18 : decode cX12_begins 18 = .ok (.iload_n 1, 1) := by decide +kernel
theorem dX12_begins_19 : decode cX12_begins 19 = .ok (.iaload, 1) := by decide +kernel
theorem dX12_begins_20 : decode cX12_begins 20 = .ok (.iastore, 1) := by decide +kernel
theorem dX12_begins_21 : decode cX12_begins 21 = .ok (.iinc 1 1, 3) := by decide +kernel
theorem dX12_begins_24 : decode cX12_begins 24 = .ok (.goto (-22), 3) := by decide +kernel
theorem dX12_begins_27 : decode cX12_begins 27 = .ok (.return_, 1) := by decide +kernel
theorem dX12_returns_0 : decode cX12_returns 0 = .ok (.iconst 0, 1) := by decide +kernel
theorem dX12_returns_1 : decode cX12_returns 1 = .ok (.istore_n 1, 1) := by decide +kernel
theorem dX12_returns_2 : decode cX12_returns 2 = .ok (.iload_n 1, 1) := by decide +kernel
theorem dX12_returns_3 : decode cX12_returns 3 = .ok (.sipush 853, 3) := by decide +kernel
theorem dX12_returns_6 : decode cX12_returns 6 = .ok (.if_icmp .ge 21, 3) := by decide +kernel
theorem dX12_returns_9 : decode cX12_returns 9 = .ok (.aload_n 0, 1) := by decide +kernel
theorem dX12_returns_10 : decode cX12_returns 10 = .ok (.getfield 7, 3) := by decide +kernel
theorem dX12_returns_13 : decode cX12_returns 13 = .ok (.iload_n 1, 1) := by decide +kernel
theorem dX12_returns_14 : decode cX12_returns 14 = .ok (.aload_n 0, 1) := by decide +kernel
theorem dX12_returns_15 : decode cX12_returns 15 = .ok (.getfield 13, 3) := by decide +kernel
theorem dX12_returns_18 : decode cX12_returns 18 = .ok (.iload_n 1, 1) := by decide +kernel
theorem dX12_returns_19 : decode cX12_returns 19 = .ok (.iaload, 1) := by decide +kernel
theorem dX12_returns_20 : decode cX12_returns 20 = .ok (.iastore, 1) := by decide +kernel
theorem dX12_returns_21 : decode cX12_returns 21 = .ok (.iinc 1 1, 3) := by decide +kernel
theorem dX12_returns_24 : decode cX12_returns 24 = .ok (.goto (-22), 3) := by decide +kernel
theorem dX12_returns_27 : decode cX12_returns 27 = .ok (.return_, 1) := by decide +kernel
theorem dX12_acted_0 : decode cX12_acted 0 = .ok (.iload_n 1, 1) := by decide +kernel
theorem dX12_acted_1 : decode cX12_acted 1 = .ok (.ldc 29, 2) := by decide +kernel
theorem dX12_acted_3 : decode cX12_acted 3 = .ok (.if_icmp .gt 9, 3) := by decide +kernel
theorem dX12_acted_6 : decode cX12_acted 6 = .ok (.aload_n 0, 1) := by decide +kernel
theorem dX12_acted_7 : decode cX12_acted 7 = .ok (.invokevirtual 30, 3) := by decide +kernel
theorem dX12_acted_10 : decode cX12_acted 10 = .ok (.iload_n 1, 1) := by decide +kernel
theorem dX12_acted_11 : decode cX12_acted 11 = .ok (.ireturn, 1) := by decide +kernel
theorem dX12_acted_12 : decode cX12_acted 12 = .ok (.aload_n 0, 1) := by decide +kernel
theorem dX12_acted_13 : decode cX12_acted 13 = .ok (.getfield 33, 3) := by decide +kernel
theorem dX12_acted_16 : decode cX12_acted 16 = .ok (.iconst 4, 1) := by decide +kernel
theorem dX12_acted_17 : decode cX12_acted 17 = .ok (.if_icmp .ne 44, 3) := by decide +kernel
theorem dX12_acted_20 : decode cX12_acted 20 = .ok (.iconst 0, 1) := by decide +kernel
theorem dX12_acted_21 : decode cX12_acted 21 = .ok (.istore_n 2, 1) := by decide +kernel
theorem dX12_acted_22 : decode cX12_acted 22 = .ok (.iload_n 2, 1) := by decide +kernel
theorem dX12_acted_23 : decode cX12_acted 23 = .ok (.sipush 2559, 3) := by decide +kernel
theorem dX12_acted_26 : decode cX12_acted 26 = .ok (.if_icmp .ge 25, 3) := by decide +kernel
theorem dX12_acted_29 : decode cX12_acted 29 = .ok (.aload_n 0, 1) := by decide +kernel
theorem dX12_acted_30 : decode cX12_acted 30 = .ok (.getfield 16, 3) := by decide +kernel
theorem dX12_acted_33 : decode cX12_acted 33 = .ok (.iload_n 2, 1) := by decide +kernel
theorem dX12_acted_34 : decode cX12_acted 34 = .ok (.aload_n 0, 1) := by decide +kernel
theorem dX12_acted_35 : decode cX12_acted 35 = .ok (.getfield 16, 3) := by decide +kernel
theorem dX12_acted_38 : decode cX12_acted 38 = .ok (.iload_n 2, 1) := by decide +kernel
theorem dX12_acted_39 : decode cX12_acted 39 = .ok (.sipush 853, 3) := by decide +kernel
theorem dX12_acted_42 : decode cX12_acted 42 = .ok (.iadd, 1) := by decide +kernel
theorem dX12_acted_43 : decode cX12_acted 43 = .ok (.iaload, 1) := by decide +kernel
theorem dX12_acted_44 : decode cX12_acted 44 = .ok (.iastore, 1) := by decide +kernel
theorem dX12_acted_45 : decode cX12_acted 45 = .ok (.iinc 2 1, 3) := by decide +kernel
theorem dX12_acted_48 : decode cX12_acted 48 = .ok (.goto (-26), 3) := by decide +kernel
theorem dX12_acted_51 : decode cX12_acted 51 = .ok (.aload_n 0, 1) := by decide +kernel
theorem dX12_acted_52 : decode cX12_acted 52 = .ok (.dup, 1) := by decide +kernel
theorem dX12_acted_53 : decode cX12_acted 53 = .ok (.getfield 33, 3) := by decide +kernel
theorem dX12_acted_56 : decode cX12_acted 56 = .ok (.iconst 1, 1) := by decide +kernel
theorem dX12_acted_57 : decode cX12_acted 57 = .ok (.isub, 1) := by decide +kernel
theorem dX12_acted_58 : decode cX12_acted 58 = .ok (.putfield 33, 3) := by decide +kernel
theorem dX12_acted_61 : decode cX12_acted 61 = .ok (.iconst 0, 1) := by decide +kernel
theorem dX12_acted_62 : decode cX12_acted 62 = .ok (.istore_n 2, 1) := by decide +kernel
theorem dX12_acted_63 : decode cX12_acted 63 = .ok (.iload_n 2, 1) := by decide +kernel
theorem dX12_acted_64 : decode cX12_acted 64 = .ok (.sipush 853, 3) := by decide +kernel
theorem dX12_acted_67 : decode cX12_acted 67 = .ok (.if_icmp .ge 30, 3) := by decide +kernel
theorem dX12_acted_70 : decode cX12_acted 70 = .ok (.aload_n 0, 1) := by decide +kernel
theorem dX12_acted_71 : decode cX12_acted 71 = .ok (.getfield 16, 3) := by decide +kernel
theorem dX12_acted_74 : decode cX12_acted 74 = .ok (.sipush 853, 3) := by decide +kernel
theorem dX12_acted_77 : decode cX12_acted 77 = .ok (.aload_n 0, 1) := by decide +kernel
theorem dX12_acted_78 : decode cX12_acted 78 = .ok (.getfield 33, 3) := by decide +kernel
theorem dX12_acted_81 : decode cX12_acted 81 = .ok (.imul, 1) := by decide +kernel
theorem dX12_acted_82 : decode cX12_acted 82 = .ok (.iload_n 2, 1) := by decide +kernel
theorem dX12_acted_83 : decode cX12_acted 83 = .ok (.iadd, 1) := by decide +kernel
theorem dX12_acted_84 : decode cX12_acted 84 = .ok (.aload_n 0, 1) := by decide +kernel
theorem dX12_acted_85 : decode cX12_acted 85 = .ok (.getfield 13, 3) := by decide +kernel
theorem dX12_acted_88 : decode cX12_acted 88 = .ok (.iload_n 2, 1) := by decide +kernel
theorem dX12_acted_89 : decode cX12_acted 89 = .ok (.iaload, 1) := by decide +kernel
theorem dX12_acted_90 : decode cX12_acted 90 = .ok (.iastore, 1) := by decide +kernel
theorem dX12_acted_91 : decode cX12_acted 91 = .ok (.iinc 2 1, 3) := by decide +kernel
theorem dX12_acted_94 : decode cX12_acted 94 = .ok (.goto (-31), 3) := by decide +kernel
theorem dX12_acted_97 : decode cX12_acted 97 = .ok (.aload_n 0, 1) := by decide +kernel
theorem dX12_acted_98 : decode cX12_acted 98 = .ok (.dup, 1) := by decide +kernel
theorem dX12_acted_99 : decode cX12_acted 99 = .ok (.getfield 33, 3) := by decide +kernel
theorem dX12_acted_102 : decode cX12_acted 102 = .ok (.iconst 1, 1) := by decide +kernel
theorem dX12_acted_103 : decode cX12_acted 103 = .ok (.iadd, 1) := by decide +kernel
theorem dX12_acted_104 : decode cX12_acted 104 = .ok (.putfield 33, 3) := by decide +kernel
theorem dX12_acted_107 : decode cX12_acted 107 = .ok (.iload_n 1, 1) := by decide +kernel
theorem dX12_acted_108 : decode cX12_acted 108 = .ok (.ireturn, 1) := by decide +kernel
theorem dX12_termPart_0 : decode cX12_termPart 0 = .ok (.aload_n 0, 1) := by decide +kernel
theorem dX12_termPart_1 : decode cX12_termPart 1 = .ok (.getfield 7, 3) := by decide +kernel
theorem dX12_termPart_4 : decode cX12_termPart 4 = .ok (.iconst 5, 1) := by decide +kernel
theorem dX12_termPart_5 : decode cX12_termPart 5 = .ok (.iconst 3, 1) := by decide +kernel
theorem dX12_termPart_6 : decode cX12_termPart 6 = .ok (.iload_n 1, 1) := by decide +kernel
theorem dX12_termPart_7 : decode cX12_termPart 7 = .ok (.imul, 1) := by decide +kernel
theorem dX12_termPart_8 : decode cX12_termPart 8 = .ok (.iadd, 1) := by decide +kernel
theorem dX12_termPart_9 : decode cX12_termPart 9 = .ok (.iload_n 2, 1) := by decide +kernel
theorem dX12_termPart_10 : decode cX12_termPart 10 = .ok (.iadd, 1) := by decide +kernel
theorem dX12_termPart_11 : decode cX12_termPart 11 = .ok (.iaload, 1) := by decide +kernel
theorem dX12_termPart_12 : decode cX12_termPart 12 = .ok (.ireturn, 1) := by decide +kernel
theorem dX12_power_0 : decode cX12_power 0 = .ok (.lconst 1, 1) := by decide +kernel
theorem dX12_power_1 : decode cX12_power 1 = .ok (.lstore_n 3, 1) := by decide +kernel
theorem dX12_power_2 : decode cX12_power 2 = .ok (.iconst 0, 1) := by decide +kernel
theorem dX12_power_3 : decode cX12_power 3 = .ok (.istore 5, 2) := by decide +kernel
theorem dX12_power_5 : decode cX12_power 5 = .ok (.iload 5, 2) := by decide +kernel
theorem dX12_power_7 : decode cX12_power 7 = .ok (.iload_n 2, 1) := by decide +kernel
theorem dX12_power_8 : decode cX12_power 8 = .ok (.if_icmp .ge 13, 3) := by decide +kernel
theorem dX12_power_11 : decode cX12_power 11 = .ok (.lload_n 3, 1) := by decide +kernel
theorem dX12_power_12 : decode cX12_power 12 = .ok (.lload_n 0, 1) := by decide +kernel
theorem dX12_power_13 : decode cX12_power 13 = .ok (.lmul, 1) := by decide +kernel
theorem dX12_power_14 : decode cX12_power 14 = .ok (.lstore_n 3, 1) := by decide +kernel
theorem dX12_power_15 : decode cX12_power 15 = .ok (.iinc 5 1, 3) := by decide +kernel
theorem dX12_power_18 : decode cX12_power 18 = .ok (.goto (-13), 3) := by decide +kernel
theorem dX12_power_21 : decode cX12_power 21 = .ok (.lload_n 3, 1) := by decide +kernel
theorem dX12_power_22 : decode cX12_power 22 = .ok (.lreturn, 1) := by decide +kernel
theorem dX12_given_0 : decode cX12_given 0 = .ok (.aload_n 0, 1) := by decide +kernel
theorem dX12_given_1 : decode cX12_given 1 = .ok (.iload_n 1, 1) := by decide +kernel
theorem dX12_given_2 : decode cX12_given 2 = .ok (.iconst 1, 1) := by decide +kernel
theorem dX12_given_3 : decode cX12_given 3 = .ok (.invokevirtual 37, 3) := by decide +kernel
theorem dX12_given_6 : decode cX12_given 6 = .ok (.istore 5, 2) := by decide +kernel
theorem dX12_given_8 : decode cX12_given 8 = .ok (.aload_n 0, 1) := by decide +kernel
theorem dX12_given_9 : decode cX12_given 9 = .ok (.iload_n 1, 1) := by decide +kernel
theorem dX12_given_10 : decode cX12_given 10 = .ok (.iconst 2, 1) := by decide +kernel
theorem dX12_given_11 : decode cX12_given 11 = .ok (.invokevirtual 37, 3) := by decide +kernel
theorem dX12_given_14 : decode cX12_given 14 = .ok (.istore 6, 2) := by decide +kernel
theorem dX12_given_16 : decode cX12_given 16 = .ok (.aload_n 0, 1) := by decide +kernel
theorem dX12_given_17 : decode cX12_given 17 = .ok (.iload_n 1, 1) := by decide +kernel
theorem dX12_given_18 : decode cX12_given 18 = .ok (.iconst 0, 1) := by decide +kernel
theorem dX12_given_19 : decode cX12_given 19 = .ok (.invokevirtual 37, 3) := by decide +kernel
theorem dX12_given_22 : decode cX12_given 22 = .ok (.i2l, 1) := by decide +kernel
theorem dX12_given_23 : decode cX12_given 23 = .ok (.ldc2_w 41, 3) := by decide +kernel
theorem dX12_given_26 : decode cX12_given 26 = .ok (.iconst 3, 1) := by decide +kernel
theorem dX12_given_27 : decode cX12_given 27 = .ok (.iload 5, 2) := by decide +kernel
theorem dX12_given_29 : decode cX12_given 29 = .ok (.isub, 1) := by decide +kernel
theorem dX12_given_30 : decode cX12_given 30 = .ok (.iload 6, 2) := by decide +kernel
theorem dX12_given_32 : decode cX12_given 32 = .ok (.isub, 1) := by decide +kernel
theorem dX12_given_33 : decode cX12_given 33 = .ok (.invokestatic 43, 3) := by decide +kernel
theorem dX12_given_36 : decode cX12_given 36 = .ok (.lmul, 1) := by decide +kernel
theorem dX12_given_37 : decode cX12_given 37 = .ok (.lstore 7, 2) := by decide +kernel
theorem dX12_given_39 : decode cX12_given 39 = .ok (.iload 4, 2) := by decide +kernel
theorem dX12_given_41 : decode cX12_given 41 = .ok (.iconst 1, 1) := by decide +kernel
theorem dX12_given_42 : decode cX12_given 42 = .ok (.if_icmp .ne 37, 3) := by decide +kernel
theorem dX12_given_45 : decode cX12_given 45 = .ok (.iload 5, 2) := by decide +kernel
theorem dX12_given_47 : decode cX12_given 47 = .ok (.ifCond .ne 7, 3) := by decide +kernel
theorem dX12_given_50 : decode cX12_given 50 = .ok (.lconst 0, 1) := by decide +kernel
theorem dX12_given_51 : decode cX12_given 51 = .ok (.goto 27, 3) := by decide +kernel
theorem dX12_given_54 : decode cX12_given 54 = .ok (.lload 7, 2) := by decide +kernel
theorem dX12_given_56 : decode cX12_given 56 = .ok (.iload 5, 2) := by decide +kernel
theorem dX12_given_58 : decode cX12_given 58 = .ok (.i2l, 1) := by decide +kernel
theorem dX12_given_59 : decode cX12_given 59 = .ok (.lmul, 1) := by decide +kernel
theorem dX12_given_60 : decode cX12_given 60 = .ok (.iload_n 2, 1) := by decide +kernel
theorem dX12_given_61 : decode cX12_given 61 = .ok (.i2l, 1) := by decide +kernel
theorem dX12_given_62 : decode cX12_given 62 = .ok (.iload 5, 2) := by decide +kernel
theorem dX12_given_64 : decode cX12_given 64 = .ok (.iconst 1, 1) := by decide +kernel
theorem dX12_given_65 : decode cX12_given 65 = .ok (.isub, 1) := by decide +kernel
theorem dX12_given_66 : decode cX12_given 66 = .ok (.invokestatic 43, 3) := by decide +kernel
theorem dX12_given_69 : decode cX12_given 69 = .ok (.lmul, 1) := by decide +kernel
theorem dX12_given_70 : decode cX12_given 70 = .ok (.iload_n 3, 1) := by decide +kernel
theorem dX12_given_71 : decode cX12_given 71 = .ok (.i2l, 1) := by decide +kernel
theorem dX12_given_72 : decode cX12_given 72 = .ok (.iload 6, 2) := by decide +kernel
theorem dX12_given_74 : decode cX12_given 74 = .ok (.invokestatic 43, 3) := by decide +kernel
theorem dX12_given_77 : decode cX12_given 77 = .ok (.lmul, 1) := by decide +kernel
theorem dX12_given_78 : decode cX12_given 78 = .ok (.lreturn, 1) := by decide +kernel
theorem dX12_given_79 : decode cX12_given 79 = .ok (.iload 4, 2) := by decide +kernel
theorem dX12_given_81 : decode cX12_given 81 = .ok (.iconst 2, 1) := by decide +kernel
theorem dX12_given_82 : decode cX12_given 82 = .ok (.if_icmp .ne 37, 3) := by decide +kernel
theorem dX12_given_85 : decode cX12_given 85 = .ok (.iload 6, 2) := by decide +kernel
theorem dX12_given_87 : decode cX12_given 87 = .ok (.ifCond .ne 7, 3) := by decide +kernel
theorem dX12_given_90 : decode cX12_given 90 = .ok (.lconst 0, 1) := by decide +kernel
theorem dX12_given_91 : decode cX12_given 91 = .ok (.goto 27, 3) := by decide +kernel
theorem dX12_given_94 : decode cX12_given 94 = .ok (.lload 7, 2) := by decide +kernel
theorem dX12_given_96 : decode cX12_given 96 = .ok (.iload 6, 2) := by decide +kernel
theorem dX12_given_98 : decode cX12_given 98 = .ok (.i2l, 1) := by decide +kernel
theorem dX12_given_99 : decode cX12_given 99 = .ok (.lmul, 1) := by decide +kernel
theorem dX12_given_100 : decode cX12_given 100 = .ok (.iload_n 2, 1) := by decide +kernel
theorem dX12_given_101 : decode cX12_given 101 = .ok (.i2l, 1) := by decide +kernel
theorem dX12_given_102 : decode cX12_given 102 = .ok (.iload 5, 2) := by decide +kernel
theorem dX12_given_104 : decode cX12_given 104 = .ok (.invokestatic 43, 3) := by decide +kernel
theorem dX12_given_107 : decode cX12_given 107 = .ok (.lmul, 1) := by decide +kernel
theorem dX12_given_108 : decode cX12_given 108 = .ok (.iload_n 3, 1) := by decide +kernel
theorem dX12_given_109 : decode cX12_given 109 = .ok (.i2l, 1) := by decide +kernel
theorem dX12_given_110 : decode cX12_given 110 = .ok (.iload 6, 2) := by decide +kernel
theorem dX12_given_112 : decode cX12_given 112 = .ok (.iconst 1, 1) := by decide +kernel
theorem dX12_given_113 : decode cX12_given 113 = .ok (.isub, 1) := by decide +kernel
theorem dX12_given_114 : decode cX12_given 114 = .ok (.invokestatic 43, 3) := by decide +kernel
theorem dX12_given_117 : decode cX12_given 117 = .ok (.lmul, 1) := by decide +kernel
theorem dX12_given_118 : decode cX12_given 118 = .ok (.lreturn, 1) := by decide +kernel
theorem dX12_given_119 : decode cX12_given 119 = .ok (.lload 7, 2) := by decide +kernel
theorem dX12_given_121 : decode cX12_given 121 = .ok (.iload_n 2, 1) := by decide +kernel
theorem dX12_given_122 : decode cX12_given 122 = .ok (.i2l, 1) := by decide +kernel
theorem dX12_given_123 : decode cX12_given 123 = .ok (.iload 5, 2) := by decide +kernel
theorem dX12_given_125 : decode cX12_given 125 = .ok (.invokestatic 43, 3) := by decide +kernel
theorem dX12_given_128 : decode cX12_given 128 = .ok (.lmul, 1) := by decide +kernel
theorem dX12_given_129 : decode cX12_given 129 = .ok (.iload_n 3, 1) := by decide +kernel
theorem dX12_given_130 : decode cX12_given 130 = .ok (.i2l, 1) := by decide +kernel
theorem dX12_given_131 : decode cX12_given 131 = .ok (.iload 6, 2) := by decide +kernel
theorem dX12_given_133 : decode cX12_given 133 = .ok (.invokestatic 43, 3) := by decide +kernel
theorem dX12_given_136 : decode cX12_given 136 = .ok (.lmul, 1) := by decide +kernel
theorem dX12_given_137 : decode cX12_given 137 = .ok (.lreturn, 1) := by decide +kernel
theorem dX12_sum_0 : decode cX12_sum 0 = .ok (.lconst 0, 1) := by decide +kernel
theorem dX12_sum_1 : decode cX12_sum 1 = .ok (.lstore 4, 2) := by decide +kernel
theorem dX12_sum_3 : decode cX12_sum 3 = .ok (.iconst 0, 1) := by decide +kernel
theorem dX12_sum_4 : decode cX12_sum 4 = .ok (.istore 6, 2) := by decide +kernel
theorem dX12_sum_6 : decode cX12_sum 6 = .ok (.iload 6, 2) := by decide +kernel
theorem dX12_sum_8 : decode cX12_sum 8 = .ok (.aload_n 0, 1) := by decide +kernel
theorem dX12_sum_9 : decode cX12_sum 9 = .ok (.getfield 7, 3) := by decide +kernel
theorem dX12_sum_12 : decode cX12_sum 12 = .ok (.iconst 0, 1) := by decide +kernel
theorem dX12_sum_13 : decode cX12_sum 13 = .ok (.iaload, 1) := by decide +kernel
theorem dX12_sum_14 : decode cX12_sum 14 = .ok (.if_icmp .ge 23, 3) := by decide +kernel
theorem dX12_sum_17 : decode cX12_sum 17 = .ok (.lload 4, 2) := by decide +kernel
theorem dX12_sum_19 : decode cX12_sum 19 = .ok (.aload_n 0, 1) := by decide +kernel
theorem dX12_sum_20 : decode cX12_sum 20 = .ok (.iload 6, 2) := by decide +kernel
theorem dX12_sum_22 : decode cX12_sum 22 = .ok (.iload_n 1, 1) := by decide +kernel
theorem dX12_sum_23 : decode cX12_sum 23 = .ok (.iload_n 2, 1) := by decide +kernel
theorem dX12_sum_24 : decode cX12_sum 24 = .ok (.iload_n 3, 1) := by decide +kernel
theorem dX12_sum_25 : decode cX12_sum 25 = .ok (.invokevirtual 47, 3) := by decide +kernel
theorem dX12_sum_28 : decode cX12_sum 28 = .ok (.ladd, 1) := by decide +kernel
theorem dX12_sum_29 : decode cX12_sum 29 = .ok (.lstore 4, 2) := by decide +kernel
theorem dX12_sum_31 : decode cX12_sum 31 = .ok (.iinc 6 1, 3) := by decide +kernel
theorem dX12_sum_34 : decode cX12_sum 34 = .ok (.goto (-28), 3) := by decide +kernel
theorem dX12_sum_37 : decode cX12_sum 37 = .ok (.lload 4, 2) := by decide +kernel
theorem dX12_sum_39 : decode cX12_sum 39 = .ok (.lreturn, 1) := by decide +kernel
theorem dX12_root_0 : decode cX12_root 0 = .ok (.lconst 0, 1) := by decide +kernel
theorem dX12_root_1 : decode cX12_root 1 = .ok (.lstore_n 2, 1) := by decide +kernel
theorem dX12_root_2 : decode cX12_root 2 = .ok (.ldc2_w 51, 3) := by decide +kernel
theorem dX12_root_5 : decode cX12_root 5 = .ok (.lstore 4, 2) := by decide +kernel
theorem dX12_root_7 : decode cX12_root 7 = .ok (.lload 4, 2) := by decide +kernel
theorem dX12_root_9 : decode cX12_root 9 = .ok (.lconst 0, 1) := by decide +kernel
theorem dX12_root_10 : decode cX12_root 10 = .ok (.lcmp, 1) := by decide +kernel
theorem dX12_root_11 : decode cX12_root 11 = .ok (.ifCond .le 37, 3) := by decide +kernel
theorem dX12_root_14 : decode cX12_root 14 = .ok (.lload_n 2, 1) := by decide +kernel
theorem dX12_root_15 : decode cX12_root 15 = .ok (.lload 4, 2) := by decide +kernel
theorem dX12_root_17 : decode cX12_root 17 = .ok (.ladd, 1) := by decide +kernel
theorem dX12_root_18 : decode cX12_root 18 = .ok (.lload_n 2, 1) := by decide +kernel
theorem dX12_root_19 : decode cX12_root 19 = .ok (.lload 4, 2) := by decide +kernel
theorem dX12_root_21 : decode cX12_root 21 = .ok (.ladd, 1) := by decide +kernel
theorem dX12_root_22 : decode cX12_root 22 = .ok (.lmul, 1) := by decide +kernel
theorem dX12_root_23 : decode cX12_root 23 = .ok (.lload_n 0, 1) := by decide +kernel
theorem dX12_root_24 : decode cX12_root 24 = .ok (.lcmp, 1) := by decide +kernel
theorem dX12_root_25 : decode cX12_root 25 = .ok (.ifCond .gt 10, 3) := by decide +kernel
theorem dX12_root_28 : decode cX12_root 28 = .ok (.lload_n 2, 1) := by decide +kernel
theorem dX12_root_29 : decode cX12_root 29 = .ok (.lload 4, 2) := by decide +kernel
theorem dX12_root_31 : decode cX12_root 31 = .ok (.ladd, 1) := by decide +kernel
theorem dX12_root_32 : decode cX12_root 32 = .ok (.goto 4, 3) := by decide +kernel
theorem dX12_root_35 : decode cX12_root 35 = .ok (.lload_n 2, 1) := by decide +kernel
theorem dX12_root_36 : decode cX12_root 36 = .ok (.lstore_n 2, 1) := by decide +kernel
theorem dX12_root_37 : decode cX12_root 37 = .ok (.lload 4, 2) := by decide +kernel
theorem dX12_root_39 : decode cX12_root 39 = .ok (.ldc2_w 53, 3) := by decide +kernel
theorem dX12_root_42 : decode cX12_root 42 = .ok (.ldiv, 1) := by decide +kernel
theorem dX12_root_43 : decode cX12_root 43 = .ok (.lstore 4, 2) := by decide +kernel
theorem dX12_root_45 : decode cX12_root 45 = .ok (.goto (-38), 3) := by decide +kernel
theorem dX12_root_48 : decode cX12_root 48 = .ok (.lload_n 2, 1) := by decide +kernel
theorem dX12_root_49 : decode cX12_root 49 = .ok (.lreturn, 1) := by decide +kernel
theorem dX12_goesRound_0 : decode cX12_goesRound 0 = .ok (.aload_n 0, 1) := by decide +kernel
theorem dX12_goesRound_1 : decode cX12_goesRound 1 = .ok (.aload_n 0, 1) := by decide +kernel
theorem dX12_goesRound_2 : decode cX12_goesRound 2 = .ok (.getfield 55, 3) := by decide +kernel
theorem dX12_goesRound_5 : decode cX12_goesRound 5 = .ok (.aload_n 0, 1) := by decide +kernel
theorem dX12_goesRound_6 : decode cX12_goesRound 6 = .ok (.getfield 58, 3) := by decide +kernel
theorem dX12_goesRound_9 : decode cX12_goesRound 9 = .ok (.iconst 1, 1) := by decide +kernel
theorem dX12_goesRound_10 : decode cX12_goesRound 10 = .ok (.invokevirtual 61, 3) := by decide +kernel
theorem dX12_goesRound_13 : decode cX12_goesRound 13 = .ok (.lstore_n 1, 1) := by decide +kernel
theorem dX12_goesRound_14 : decode cX12_goesRound 14 = .ok (.aload_n 0, 1) := by decide +kernel
theorem dX12_goesRound_15 : decode cX12_goesRound 15 = .ok (.aload_n 0, 1) := by decide +kernel
theorem dX12_goesRound_16 : decode cX12_goesRound 16 = .ok (.getfield 55, 3) := by decide +kernel
theorem dX12_goesRound_19 : decode cX12_goesRound 19 = .ok (.aload_n 0, 1) := by decide +kernel
theorem dX12_goesRound_20 : decode cX12_goesRound 20 = .ok (.getfield 58, 3) := by decide +kernel
theorem dX12_goesRound_23 : decode cX12_goesRound 23 = .ok (.iconst 2, 1) := by decide +kernel
theorem dX12_goesRound_24 : decode cX12_goesRound 24 = .ok (.invokevirtual 61, 3) := by decide +kernel
theorem dX12_goesRound_27 : decode cX12_goesRound 27 = .ok (.lstore_n 3, 1) := by decide +kernel
theorem dX12_goesRound_28 : decode cX12_goesRound 28 = .ok (.lload_n 1, 1) := by decide +kernel
theorem dX12_goesRound_29 : decode cX12_goesRound 29 = .ok (.lload_n 1, 1) := by decide +kernel
theorem dX12_goesRound_30 : decode cX12_goesRound 30 = .ok (.lmul, 1) := by decide +kernel
theorem dX12_goesRound_31 : decode cX12_goesRound 31 = .ok (.lload_n 3, 1) := by decide +kernel
theorem dX12_goesRound_32 : decode cX12_goesRound 32 = .ok (.lload_n 3, 1) := by decide +kernel
theorem dX12_goesRound_33 : decode cX12_goesRound 33 = .ok (.lmul, 1) := by decide +kernel
theorem dX12_goesRound_34 : decode cX12_goesRound 34 = .ok (.ladd, 1) := by decide +kernel
theorem dX12_goesRound_35 : decode cX12_goesRound 35 = .ok (.lstore 5, 2) := by decide +kernel
theorem dX12_goesRound_37 : decode cX12_goesRound 37 = .ok (.lload 5, 2) := by decide +kernel
theorem dX12_goesRound_39 : decode cX12_goesRound 39 = .ok (.lconst 0, 1) := by decide +kernel
theorem dX12_goesRound_40 : decode cX12_goesRound 40 = .ok (.lcmp, 1) := by decide +kernel
theorem dX12_goesRound_41 : decode cX12_goesRound 41 = .ok (.ifCond .ne 10, 3) := by decide +kernel
theorem dX12_goesRound_44 : decode cX12_goesRound 44 = .ok (.aload_n 0, 1) := by decide +kernel
theorem dX12_goesRound_45 : decode cX12_goesRound 45 = .ok (.iconst (-1), 1) := by decide +kernel
theorem dX12_goesRound_46 : decode cX12_goesRound 46 = .ok (.putfield 65, 3) := by decide +kernel
theorem dX12_goesRound_49 : decode cX12_goesRound 49 = .ok (.iconst 0, 1) := by decide +kernel
theorem dX12_goesRound_50 : decode cX12_goesRound 50 = .ok (.ireturn, 1) := by decide +kernel
theorem dX12_goesRound_51 : decode cX12_goesRound 51 = .ok (.aload_n 0, 1) := by decide +kernel
theorem dX12_goesRound_52 : decode cX12_goesRound 52 = .ok (.aload_n 0, 1) := by decide +kernel
theorem dX12_goesRound_53 : decode cX12_goesRound 53 = .ok (.getfield 55, 3) := by decide +kernel
theorem dX12_goesRound_56 : decode cX12_goesRound 56 = .ok (.aload_n 0, 1) := by decide +kernel
theorem dX12_goesRound_57 : decode cX12_goesRound 57 = .ok (.getfield 58, 3) := by decide +kernel
theorem dX12_goesRound_60 : decode cX12_goesRound 60 = .ok (.iconst 0, 1) := by decide +kernel
theorem dX12_goesRound_61 : decode cX12_goesRound 61 = .ok (.invokevirtual 61, 3) := by decide +kernel
theorem dX12_goesRound_64 : decode cX12_goesRound 64 = .ok (.lstore 7, 2) := by decide +kernel
theorem dX12_goesRound_66 : decode cX12_goesRound 66 = .ok (.aload_n 0, 1) := by decide +kernel
theorem dX12_goesRound_67 : decode cX12_goesRound 67 = .ok (.getfield 55, 3) := by decide +kernel
theorem dX12_goesRound_70 : decode cX12_goesRound 70 = .ok (.i2l, 1) := by decide +kernel
theorem dX12_goesRound_71 : decode cX12_goesRound 71 = .ok (.lload 7, 2) := by decide +kernel
theorem dX12_goesRound_73 : decode cX12_goesRound 73 = .ok (.lload_n 1, 1) := by decide +kernel
theorem dX12_goesRound_74 : decode cX12_goesRound 74 = .ok (.lmul, 1) := by decide +kernel
theorem dX12_goesRound_75 : decode cX12_goesRound 75 = .ok (.lload 5, 2) := by decide +kernel
theorem dX12_goesRound_77 : decode cX12_goesRound 77 = .ok (.ldiv, 1) := by decide +kernel
theorem dX12_goesRound_78 : decode cX12_goesRound 78 = .ok (.lsub, 1) := by decide +kernel
theorem dX12_goesRound_79 : decode cX12_goesRound 79 = .ok (.lstore 9, 2) := by decide +kernel
theorem dX12_goesRound_81 : decode cX12_goesRound 81 = .ok (.aload_n 0, 1) := by decide +kernel
theorem dX12_goesRound_82 : decode cX12_goesRound 82 = .ok (.getfield 58, 3) := by decide +kernel
theorem dX12_goesRound_85 : decode cX12_goesRound 85 = .ok (.i2l, 1) := by decide +kernel
theorem dX12_goesRound_86 : decode cX12_goesRound 86 = .ok (.lload 7, 2) := by decide +kernel
theorem dX12_goesRound_88 : decode cX12_goesRound 88 = .ok (.lload_n 3, 1) := by decide +kernel
theorem dX12_goesRound_89 : decode cX12_goesRound 89 = .ok (.lmul, 1) := by decide +kernel
theorem dX12_goesRound_90 : decode cX12_goesRound 90 = .ok (.lload 5, 2) := by decide +kernel
theorem dX12_goesRound_92 : decode cX12_goesRound 92 = .ok (.ldiv, 1) := by decide +kernel
theorem dX12_goesRound_93 : decode cX12_goesRound 93 = .ok (.lsub, 1) := by decide +kernel
theorem dX12_goesRound_94 : decode cX12_goesRound 94 = .ok (.lstore 11, 2) := by decide +kernel
theorem dX12_goesRound_96 : decode cX12_goesRound 96 = .ok (.lload 9, 2) := by decide +kernel
theorem dX12_goesRound_98 : decode cX12_goesRound 98 = .ok (.ldc2_w 68, 3) := by decide +kernel
theorem dX12_goesRound_101 : decode cX12_goesRound 101 = .ok (.lcmp, 1) := by decide +kernel
theorem dX12_goesRound_102 : decode cX12_goesRound 102 = .ok (.ifCond .lt 30, 3) := by decide +kernel
theorem dX12_goesRound_105 : decode cX12_goesRound 105 = .ok (.lload 9, 2) := by decide +kernel
theorem dX12_goesRound_107 : decode cX12_goesRound 107 = .ok (.ldc2_w 70, 3) := by decide +kernel
theorem dX12_goesRound_110 : decode cX12_goesRound 110 = .ok (.lcmp, 1) := by decide +kernel
theorem dX12_goesRound_111 : decode cX12_goesRound 111 = .ok (.ifCond .gt 21, 3) := by decide +kernel
theorem dX12_goesRound_114 : decode cX12_goesRound 114 = .ok (.lload 11, 2) := by decide +kernel
theorem dX12_goesRound_116 : decode cX12_goesRound 116 = .ok (.ldc2_w 68, 3) := by decide +kernel
theorem dX12_goesRound_119 : decode cX12_goesRound 119 = .ok (.lcmp, 1) := by decide +kernel
theorem dX12_goesRound_120 : decode cX12_goesRound 120 = .ok (.ifCond .lt 12, 3) := by decide +kernel
theorem dX12_goesRound_123 : decode cX12_goesRound 123 = .ok (.lload 11, 2) := by decide +kernel
theorem dX12_goesRound_125 : decode cX12_goesRound 125 = .ok (.ldc2_w 70, 3) := by decide +kernel
theorem dX12_goesRound_128 : decode cX12_goesRound 128 = .ok (.lcmp, 1) := by decide +kernel
theorem dX12_goesRound_129 : decode cX12_goesRound 129 = .ok (.ifCond .le 10, 3) := by decide +kernel
theorem dX12_goesRound_132 : decode cX12_goesRound 132 = .ok (.aload_n 0, 1) := by decide +kernel
theorem dX12_goesRound_133 : decode cX12_goesRound 133 = .ok (.iconst (-1), 1) := by decide +kernel
theorem dX12_goesRound_134 : decode cX12_goesRound 134 = .ok (.putfield 65, 3) := by decide +kernel
theorem dX12_goesRound_137 : decode cX12_goesRound 137 = .ok (.iconst 0, 1) := by decide +kernel
theorem dX12_goesRound_138 : decode cX12_goesRound 138 = .ok (.ireturn, 1) := by decide +kernel
theorem dX12_goesRound_139 : decode cX12_goesRound 139 = .ok (.lload 9, 2) := by decide +kernel
theorem dX12_goesRound_141 : decode cX12_goesRound 141 = .ok (.aload_n 0, 1) := by decide +kernel
theorem dX12_goesRound_142 : decode cX12_goesRound 142 = .ok (.getfield 55, 3) := by decide +kernel
theorem dX12_goesRound_145 : decode cX12_goesRound 145 = .ok (.i2l, 1) := by decide +kernel
theorem dX12_goesRound_146 : decode cX12_goesRound 146 = .ok (.lcmp, 1) := by decide +kernel
theorem dX12_goesRound_147 : decode cX12_goesRound 147 = .ok (.ifCond .ne 14, 3) := by decide +kernel
theorem dX12_goesRound_150 : decode cX12_goesRound 150 = .ok (.lload 11, 2) := by decide +kernel
theorem dX12_goesRound_152 : decode cX12_goesRound 152 = .ok (.aload_n 0, 1) := by decide +kernel
theorem dX12_goesRound_153 : decode cX12_goesRound 153 = .ok (.getfield 58, 3) := by decide +kernel
theorem dX12_goesRound_156 : decode cX12_goesRound 156 = .ok (.i2l, 1) := by decide +kernel
theorem dX12_goesRound_157 : decode cX12_goesRound 157 = .ok (.lcmp, 1) := by decide +kernel
theorem dX12_goesRound_158 : decode cX12_goesRound 158 = .ok (.ifCond .eq 7, 3) := by decide +kernel
theorem dX12_goesRound_161 : decode cX12_goesRound 161 = .ok (.iconst 1, 1) := by decide +kernel
theorem dX12_goesRound_162 : decode cX12_goesRound 162 = .ok (.goto 4, 3) := by decide +kernel
theorem dX12_goesRound_165 : decode cX12_goesRound 165 = .ok (.iconst 0, 1) := by decide +kernel
theorem dX12_goesRound_166 : decode cX12_goesRound 166 = .ok (.istore 13, 2) := by decide +kernel
theorem dX12_goesRound_168 : decode cX12_goesRound 168 = .ok (.aload_n 0, 1) := by decide +kernel
theorem dX12_goesRound_169 : decode cX12_goesRound 169 = .ok (.lload 9, 2) := by decide +kernel
theorem dX12_goesRound_171 : decode cX12_goesRound 171 = .ok (.l2i, 1) := by decide +kernel
theorem dX12_goesRound_172 : decode cX12_goesRound 172 = .ok (.putfield 55, 3) := by decide +kernel
theorem dX12_goesRound_175 : decode cX12_goesRound 175 = .ok (.aload_n 0, 1) := by decide +kernel
theorem dX12_goesRound_176 : decode cX12_goesRound 176 = .ok (.lload 11, 2) := by decide +kernel
theorem dX12_goesRound_178 : decode cX12_goesRound 178 = .ok (.l2i, 1) := by decide +kernel
theorem dX12_goesRound_179 : decode cX12_goesRound 179 = .ok (.putfield 58, 3) := by decide +kernel
theorem dX12_goesRound_182 : decode cX12_goesRound 182 = .ok (.aload_n 0, 1) := by decide +kernel
theorem dX12_goesRound_183 : decode cX12_goesRound 183 = .ok (.dup, 1) := by decide +kernel
theorem dX12_goesRound_184 : decode cX12_goesRound 184 = .ok (.getfield 65, 3) := by decide +kernel
theorem dX12_goesRound_187 : decode cX12_goesRound 187 = .ok (.iconst 1, 1) := by decide +kernel
theorem dX12_goesRound_188 : decode cX12_goesRound 188 = .ok (.iadd, 1) := by decide +kernel
theorem dX12_goesRound_189 : decode cX12_goesRound 189 = .ok (.putfield 65, 3) := by decide +kernel
theorem dX12_goesRound_192 : decode cX12_goesRound 192 = .ok (.iload 13, 2) := by decide +kernel
theorem dX12_goesRound_194 : decode cX12_goesRound 194 = .ok (.ireturn, 1) := by decide +kernel
theorem dX12_corrects_0 : decode cX12_corrects 0 = .ok (.lload_n 1, 1) := by decide +kernel
theorem dX12_corrects_1 : decode cX12_corrects 1 = .ok (.ldc2_w 68, 3) := by decide +kernel
theorem dX12_corrects_4 : decode cX12_corrects 4 = .ok (.lcmp, 1) := by decide +kernel
theorem dX12_corrects_5 : decode cX12_corrects 5 = .ok (.ifCond .lt 27, 3) := by decide +kernel
theorem dX12_corrects_8 : decode cX12_corrects 8 = .ok (.lload_n 1, 1) := by decide +kernel
theorem dX12_corrects_9 : decode cX12_corrects 9 = .ok (.ldc2_w 70, 3) := by decide +kernel
theorem dX12_corrects_12 : decode cX12_corrects 12 = .ok (.lcmp, 1) := by decide +kernel
theorem dX12_corrects_13 : decode cX12_corrects 13 = .ok (.ifCond .gt 19, 3) := by decide +kernel
theorem dX12_corrects_16 : decode cX12_corrects 16 = .ok (.lload_n 3, 1) := by decide +kernel
theorem dX12_corrects_17 : decode cX12_corrects 17 = .ok (.ldc2_w 68, 3) := by decide +kernel
theorem dX12_corrects_20 : decode cX12_corrects 20 = .ok (.lcmp, 1) := by decide +kernel
theorem dX12_corrects_21 : decode cX12_corrects 21 = .ok (.ifCond .lt 11, 3) := by decide +kernel
theorem dX12_corrects_24 : decode cX12_corrects 24 = .ok (.lload_n 3, 1) := by decide +kernel
theorem dX12_corrects_25 : decode cX12_corrects 25 = .ok (.ldc2_w 70, 3) := by decide +kernel
theorem dX12_corrects_28 : decode cX12_corrects 28 = .ok (.lcmp, 1) := by decide +kernel
theorem dX12_corrects_29 : decode cX12_corrects 29 = .ok (.ifCond .le 5, 3) := by decide +kernel
theorem dX12_corrects_32 : decode cX12_corrects 32 = .ok (.iconst 0, 1) := by decide +kernel
theorem dX12_corrects_33 : decode cX12_corrects 33 = .ok (.ireturn, 1) := by decide +kernel
theorem dX12_corrects_34 : decode cX12_corrects 34 = .ok (.aload_n 0, 1) := by decide +kernel
theorem dX12_corrects_35 : decode cX12_corrects 35 = .ok (.lload_n 1, 1) := by decide +kernel
theorem dX12_corrects_36 : decode cX12_corrects 36 = .ok (.l2i, 1) := by decide +kernel
theorem dX12_corrects_37 : decode cX12_corrects 37 = .ok (.putfield 55, 3) := by decide +kernel
theorem dX12_corrects_40 : decode cX12_corrects 40 = .ok (.aload_n 0, 1) := by decide +kernel
theorem dX12_corrects_41 : decode cX12_corrects 41 = .ok (.lload_n 3, 1) := by decide +kernel
theorem dX12_corrects_42 : decode cX12_corrects 42 = .ok (.l2i, 1) := by decide +kernel
theorem dX12_corrects_43 : decode cX12_corrects 43 = .ok (.putfield 58, 3) := by decide +kernel
theorem dX12_corrects_46 : decode cX12_corrects 46 = .ok (.aload_n 0, 1) := by decide +kernel
theorem dX12_corrects_47 : decode cX12_corrects 47 = .ok (.iconst 0, 1) := by decide +kernel
theorem dX12_corrects_48 : decode cX12_corrects 48 = .ok (.putfield 65, 3) := by decide +kernel
theorem dX12_corrects_51 : decode cX12_corrects 51 = .ok (.aload_n 0, 1) := by decide +kernel
theorem dX12_corrects_52 : decode cX12_corrects 52 = .ok (.getfield 65, 3) := by decide +kernel
theorem dX12_corrects_55 : decode cX12_corrects 55 = .ok (.aload_n 0, 1) := by decide +kernel
theorem dX12_corrects_56 : decode cX12_corrects 56 = .ok (.getfield 7, 3) := by decide +kernel
theorem dX12_corrects_59 : decode cX12_corrects 59 = .ok (.iconst 4, 1) := by decide +kernel
theorem dX12_corrects_60 : decode cX12_corrects 60 = .ok (.iaload, 1) := by decide +kernel
theorem dX12_corrects_61 : decode cX12_corrects 61 = .ok (.if_icmp .ge 23, 3) := by decide +kernel
theorem dX12_corrects_64 : decode cX12_corrects 64 = .ok (.aload_n 0, 1) := by decide +kernel
theorem dX12_corrects_65 : decode cX12_corrects 65 = .ok (.invokevirtual 72, 3) := by decide +kernel
theorem dX12_corrects_68 : decode cX12_corrects 68 = .ok (.ifCond .ne (-17), 3) := by decide +kernel
theorem dX12_corrects_71 : decode cX12_corrects 71 = .ok (.aload_n 0, 1) := by decide +kernel
theorem dX12_corrects_72 : decode cX12_corrects 72 = .ok (.getfield 65, 3) := by decide +kernel
theorem dX12_corrects_75 : decode cX12_corrects 75 = .ok (.ifCond .le 7, 3) := by decide +kernel
theorem dX12_corrects_78 : decode cX12_corrects 78 = .ok (.iconst 1, 1) := by decide +kernel
theorem dX12_corrects_79 : decode cX12_corrects 79 = .ok (.goto 4, 3) := by decide +kernel
theorem dX12_corrects_82 : decode cX12_corrects 82 = .ok (.iconst 0, 1) := by decide +kernel
theorem dX12_corrects_83 : decode cX12_corrects 83 = .ok (.ireturn, 1) := by decide +kernel
theorem dX12_corrects_84 : decode cX12_corrects 84 = .ok (.iconst 0, 1) := by decide +kernel
theorem dX12_corrects_85 : decode cX12_corrects 85 = .ok (.ireturn, 1) := by decide +kernel
theorem dX12_walkAt_0 : decode cX12_walkAt 0 = .ok (.bipush 23, 2) := by decide +kernel
theorem dX12_walkAt_2 : decode cX12_walkAt 2 = .ok (.sipush 166, 3) := by decide +kernel
theorem dX12_walkAt_5 : decode cX12_walkAt 5 = .ok (.iload_n 0, 1) := by decide +kernel
theorem dX12_walkAt_6 : decode cX12_walkAt 6 = .ok (.imul, 1) := by decide +kernel
theorem dX12_walkAt_7 : decode cX12_walkAt 7 = .ok (.iadd, 1) := by decide +kernel
theorem dX12_walkAt_8 : decode cX12_walkAt 8 = .ok (.ireturn, 1) := by decide +kernel
theorem dX12_walkPart_0 : decode cX12_walkPart 0 = .ok (.aload_n 0, 1) := by decide +kernel
theorem dX12_walkPart_1 : decode cX12_walkPart 1 = .ok (.getfield 7, 3) := by decide +kernel
theorem dX12_walkPart_4 : decode cX12_walkPart 4 = .ok (.iload_n 1, 1) := by decide +kernel
theorem dX12_walkPart_5 : decode cX12_walkPart 5 = .ok (.invokestatic 76, 3) := by decide +kernel
theorem dX12_walkPart_8 : decode cX12_walkPart 8 = .ok (.iload_n 2, 1) := by decide +kernel
theorem dX12_walkPart_9 : decode cX12_walkPart 9 = .ok (.iadd, 1) := by decide +kernel
theorem dX12_walkPart_10 : decode cX12_walkPart 10 = .ok (.iaload, 1) := by decide +kernel
theorem dX12_walkPart_11 : decode cX12_walkPart 11 = .ok (.ireturn, 1) := by decide +kernel
theorem dX12_puts_0 : decode cX12_puts 0 = .ok (.aload_n 0, 1) := by decide +kernel
theorem dX12_puts_1 : decode cX12_puts 1 = .ok (.getfield 7, 3) := by decide +kernel
theorem dX12_puts_4 : decode cX12_puts 4 = .ok (.iload_n 1, 1) := by decide +kernel
theorem dX12_puts_5 : decode cX12_puts 5 = .ok (.invokestatic 76, 3) := by decide +kernel
theorem dX12_puts_8 : decode cX12_puts 8 = .ok (.iload_n 2, 1) := by decide +kernel
theorem dX12_puts_9 : decode cX12_puts 9 = .ok (.iadd, 1) := by decide +kernel
theorem dX12_puts_10 : decode cX12_puts 10 = .ok (.iload_n 3, 1) := by decide +kernel
theorem dX12_puts_11 : decode cX12_puts 11 = .ok (.iastore, 1) := by decide +kernel
theorem dX12_puts_12 : decode cX12_puts 12 = .ok (.return_, 1) := by decide +kernel
theorem dX12_places_0 : decode cX12_places 0 = .ok (.aload_n 0, 1) := by decide +kernel
theorem dX12_places_1 : decode cX12_places 1 = .ok (.getfield 7, 3) := by decide +kernel
theorem dX12_places_4 : decode cX12_places 4 = .ok (.iload_n 1, 1) := by decide +kernel
theorem dX12_places_5 : decode cX12_places 5 = .ok (.invokestatic 76, 3) := by decide +kernel
theorem dX12_places_8 : decode cX12_places 8 = .ok (.iaload, 1) := by decide +kernel
theorem dX12_places_9 : decode cX12_places 9 = .ok (.ireturn, 1) := by decide +kernel
theorem dX12_placePart_0 : decode cX12_placePart 0 = .ok (.aload_n 0, 1) := by decide +kernel
theorem dX12_placePart_1 : decode cX12_placePart 1 = .ok (.getfield 7, 3) := by decide +kernel
theorem dX12_placePart_4 : decode cX12_placePart 4 = .ok (.iload_n 1, 1) := by decide +kernel
theorem dX12_placePart_5 : decode cX12_placePart 5 = .ok (.invokestatic 76, 3) := by decide +kernel
theorem dX12_placePart_8 : decode cX12_placePart 8 = .ok (.bipush 6, 2) := by decide +kernel
theorem dX12_placePart_10 : decode cX12_placePart 10 = .ok (.iadd, 1) := by decide +kernel
theorem dX12_placePart_11 : decode cX12_placePart 11 = .ok (.iconst 4, 1) := by decide +kernel
theorem dX12_placePart_12 : decode cX12_placePart 12 = .ok (.iload_n 2, 1) := by decide +kernel
theorem dX12_placePart_13 : decode cX12_placePart 13 = .ok (.imul, 1) := by decide +kernel
theorem dX12_placePart_14 : decode cX12_placePart 14 = .ok (.iadd, 1) := by decide +kernel
theorem dX12_placePart_15 : decode cX12_placePart 15 = .ok (.iload_n 3, 1) := by decide +kernel
theorem dX12_placePart_16 : decode cX12_placePart 16 = .ok (.iadd, 1) := by decide +kernel
theorem dX12_placePart_17 : decode cX12_placePart 17 = .ok (.iaload, 1) := by decide +kernel
theorem dX12_placePart_18 : decode cX12_placePart 18 = .ok (.ireturn, 1) := by decide +kernel
theorem dX12_isWalk_0 : decode cX12_isWalk 0 = .ok (.iload_n 1, 1) := by decide +kernel
theorem dX12_isWalk_1 : decode cX12_isWalk 1 = .ok (.iconst 0, 1) := by decide +kernel
theorem dX12_isWalk_2 : decode cX12_isWalk 2 = .ok (.aload_n 0, 1) := by decide +kernel
theorem dX12_isWalk_3 : decode cX12_isWalk 3 = .ok (.getfield 7, 3) := by decide +kernel
theorem dX12_isWalk_6 : decode cX12_isWalk 6 = .ok (.iconst 1, 1) := by decide +kernel
theorem dX12_isWalk_7 : decode cX12_isWalk 7 = .ok (.iaload, 1) := by decide +kernel
theorem dX12_isWalk_8 : decode cX12_isWalk 8 = .ok (.iconst 1, 1) := by decide +kernel
theorem dX12_isWalk_9 : decode cX12_isWalk 9 = .ok (.isub, 1) := by decide +kernel
theorem dX12_isWalk_10 : decode cX12_isWalk 10 = .ok (.invokestatic 25, 3) := by decide +kernel
theorem dX12_isWalk_13 : decode cX12_isWalk 13 = .ok (.ireturn, 1) := by decide +kernel
theorem dX12_joins_0 : decode cX12_joins 0 = .ok (.iload_n 1, 1) := by decide +kernel
theorem dX12_joins_1 : decode cX12_joins 1 = .ok (.invokestatic 76, 3) := by decide +kernel
theorem dX12_joins_4 : decode cX12_joins 4 = .ok (.bipush 6, 2) := by decide +kernel
theorem dX12_joins_6 : decode cX12_joins 6 = .ok (.iadd, 1) := by decide +kernel
theorem dX12_joins_7 : decode cX12_joins 7 = .ok (.iconst 4, 1) := by decide +kernel
theorem dX12_joins_8 : decode cX12_joins 8 = .ok (.aload_n 0, 1) := by decide +kernel
theorem dX12_joins_9 : decode cX12_joins 9 = .ok (.iload_n 1, 1) := by decide +kernel
theorem dX12_joins_10 : decode cX12_joins 10 = .ok (.invokevirtual 80, 3) := by decide +kernel
theorem dX12_joins_13 : decode cX12_joins 13 = .ok (.imul, 1) := by decide +kernel
theorem dX12_joins_14 : decode cX12_joins 14 = .ok (.iadd, 1) := by decide +kernel
theorem dX12_joins_15 : decode cX12_joins 15 = .ok (.istore_n 3, 1) := by decide +kernel
theorem dX12_joins_16 : decode cX12_joins 16 = .ok (.aload_n 0, 1) := by decide +kernel
theorem dX12_joins_17 : decode cX12_joins 17 = .ok (.getfield 7, 3) := by decide +kernel
theorem dX12_joins_20 : decode cX12_joins 20 = .ok (.iload_n 3, 1) := by decide +kernel
theorem dX12_joins_21 : decode cX12_joins 21 = .ok (.iconst 0, 1) := by decide +kernel
theorem dX12_joins_22 : decode cX12_joins 22 = .ok (.iadd, 1) := by decide +kernel
theorem dX12_joins_23 : decode cX12_joins 23 = .ok (.aload_n 0, 1) := by decide +kernel
theorem dX12_joins_24 : decode cX12_joins 24 = .ok (.getfield 55, 3) := by decide +kernel
theorem dX12_joins_27 : decode cX12_joins 27 = .ok (.iastore, 1) := by decide +kernel
theorem dX12_joins_28 : decode cX12_joins 28 = .ok (.aload_n 0, 1) := by decide +kernel
theorem dX12_joins_29 : decode cX12_joins 29 = .ok (.getfield 7, 3) := by decide +kernel
theorem dX12_joins_32 : decode cX12_joins 32 = .ok (.iload_n 3, 1) := by decide +kernel
theorem dX12_joins_33 : decode cX12_joins 33 = .ok (.iconst 1, 1) := by decide +kernel
theorem dX12_joins_34 : decode cX12_joins 34 = .ok (.iadd, 1) := by decide +kernel
theorem dX12_joins_35 : decode cX12_joins 35 = .ok (.aload_n 0, 1) := by decide +kernel
theorem dX12_joins_36 : decode cX12_joins 36 = .ok (.getfield 58, 3) := by decide +kernel
theorem dX12_joins_39 : decode cX12_joins 39 = .ok (.iastore, 1) := by decide +kernel
theorem dX12_joins_40 : decode cX12_joins 40 = .ok (.aload_n 0, 1) := by decide +kernel
theorem dX12_joins_41 : decode cX12_joins 41 = .ok (.getfield 7, 3) := by decide +kernel
theorem dX12_joins_44 : decode cX12_joins 44 = .ok (.iload_n 3, 1) := by decide +kernel
theorem dX12_joins_45 : decode cX12_joins 45 = .ok (.iconst 2, 1) := by decide +kernel
theorem dX12_joins_46 : decode cX12_joins 46 = .ok (.iadd, 1) := by decide +kernel
theorem dX12_joins_47 : decode cX12_joins 47 = .ok (.aload_n 0, 1) := by decide +kernel
theorem dX12_joins_48 : decode cX12_joins 48 = .ok (.getfield 65, 3) := by decide +kernel
theorem dX12_joins_51 : decode cX12_joins 51 = .ok (.iastore, 1) := by decide +kernel
theorem dX12_joins_52 : decode cX12_joins 52 = .ok (.aload_n 0, 1) := by decide +kernel
theorem dX12_joins_53 : decode cX12_joins 53 = .ok (.getfield 7, 3) := by decide +kernel
theorem dX12_joins_56 : decode cX12_joins 56 = .ok (.iload_n 3, 1) := by decide +kernel
theorem dX12_joins_57 : decode cX12_joins 57 = .ok (.iconst 3, 1) := by decide +kernel
theorem dX12_joins_58 : decode cX12_joins 58 = .ok (.iadd, 1) := by decide +kernel
theorem dX12_joins_59 : decode cX12_joins 59 = .ok (.iload_n 2, 1) := by decide +kernel
theorem dX12_joins_60 : decode cX12_joins 60 = .ok (.iastore, 1) := by decide +kernel
theorem dX12_joins_61 : decode cX12_joins 61 = .ok (.aload_n 0, 1) := by decide +kernel
theorem dX12_joins_62 : decode cX12_joins 62 = .ok (.getfield 7, 3) := by decide +kernel
theorem dX12_joins_65 : decode cX12_joins 65 = .ok (.iload_n 1, 1) := by decide +kernel
theorem dX12_joins_66 : decode cX12_joins 66 = .ok (.invokestatic 76, 3) := by decide +kernel
theorem dX12_joins_69 : decode cX12_joins 69 = .ok (.dup2, 1) := by decide +kernel
theorem dX12_joins_70 : decode cX12_joins 70 = .ok (.iaload, 1) := by decide +kernel
theorem dX12_joins_71 : decode cX12_joins 71 = .ok (.iconst 1, 1) := by decide +kernel
theorem dX12_joins_72 : decode cX12_joins 72 = .ok (.iadd, 1) := by decide +kernel
theorem dX12_joins_73 : decode cX12_joins 73 = .ok (.iastore, 1) := by decide +kernel
theorem dX12_joins_74 : decode cX12_joins 74 = .ok (.return_, 1) := by decide +kernel
theorem dX12_opens_0 : decode cX12_opens 0 = .ok (.aload_n 0, 1) := by decide +kernel
theorem dX12_opens_1 : decode cX12_opens 1 = .ok (.getfield 7, 3) := by decide +kernel
theorem dX12_opens_4 : decode cX12_opens 4 = .ok (.iconst 1, 1) := by decide +kernel
theorem dX12_opens_5 : decode cX12_opens 5 = .ok (.iaload, 1) := by decide +kernel
theorem dX12_opens_6 : decode cX12_opens 6 = .ok (.iconst 5, 1) := by decide +kernel
theorem dX12_opens_7 : decode cX12_opens 7 = .ok (.if_icmp .ne 6, 3) := by decide +kernel
theorem dX12_opens_10 : decode cX12_opens 10 = .ok (.ldc 83, 2) := by decide +kernel
theorem dX12_opens_12 : decode cX12_opens 12 = .ok (.ireturn, 1) := by decide +kernel
theorem dX12_opens_13 : decode cX12_opens 13 = .ok (.aload_n 0, 1) := by decide +kernel
theorem dX12_opens_14 : decode cX12_opens 14 = .ok (.getfield 7, 3) := by decide +kernel
theorem dX12_opens_17 : decode cX12_opens 17 = .ok (.iconst 1, 1) := by decide +kernel
theorem dX12_opens_18 : decode cX12_opens 18 = .ok (.iaload, 1) := by decide +kernel
theorem dX12_opens_19 : decode cX12_opens 19 = .ok (.istore 4, 2) := by decide +kernel
theorem dX12_opens_21 : decode cX12_opens 21 = .ok (.aload_n 0, 1) := by decide +kernel
theorem dX12_opens_22 : decode cX12_opens 22 = .ok (.getfield 7, 3) := by decide +kernel
theorem dX12_opens_25 : decode cX12_opens 25 = .ok (.iconst 1, 1) := by decide +kernel
theorem dX12_opens_26 : decode cX12_opens 26 = .ok (.dup2, 1) := by decide +kernel
theorem dX12_opens_27 : decode cX12_opens 27 = .ok (.iaload, 1) := by decide +kernel
theorem dX12_opens_28 : decode cX12_opens 28 = .ok (.iconst 1, 1) := by decide +kernel
theorem dX12_opens_29 : decode cX12_opens 29 = .ok (.iadd, 1) := by decide +kernel
theorem dX12_opens_30 : decode cX12_opens 30 = .ok (.iastore, 1) := by decide +kernel
theorem dX12_opens_31 : decode cX12_opens 31 = .ok (.aload_n 0, 1) := by decide +kernel
theorem dX12_opens_32 : decode cX12_opens 32 = .ok (.iload 4, 2) := by decide +kernel
theorem dX12_opens_34 : decode cX12_opens 34 = .ok (.iconst 0, 1) := by decide +kernel
theorem dX12_opens_35 : decode cX12_opens 35 = .ok (.iconst 0, 1) := by decide +kernel
theorem dX12_opens_36 : decode cX12_opens 36 = .ok (.invokevirtual 84, 3) := by decide +kernel
theorem dX12_opens_39 : decode cX12_opens 39 = .ok (.aload_n 0, 1) := by decide +kernel
theorem dX12_opens_40 : decode cX12_opens 40 = .ok (.iload 4, 2) := by decide +kernel
theorem dX12_opens_42 : decode cX12_opens 42 = .ok (.iconst 1, 1) := by decide +kernel
theorem dX12_opens_43 : decode cX12_opens 43 = .ok (.iload_n 1, 1) := by decide +kernel
theorem dX12_opens_44 : decode cX12_opens 44 = .ok (.invokevirtual 84, 3) := by decide +kernel
theorem dX12_opens_47 : decode cX12_opens 47 = .ok (.aload_n 0, 1) := by decide +kernel
theorem dX12_opens_48 : decode cX12_opens 48 = .ok (.iload 4, 2) := by decide +kernel
theorem dX12_opens_50 : decode cX12_opens 50 = .ok (.iconst 2, 1) := by decide +kernel
theorem dX12_opens_51 : decode cX12_opens 51 = .ok (.aload_n 0, 1) := by decide +kernel
theorem dX12_opens_52 : decode cX12_opens 52 = .ok (.getfield 7, 3) := by decide +kernel
theorem dX12_opens_55 : decode cX12_opens 55 = .ok (.iconst 2, 1) := by decide +kernel
theorem dX12_opens_56 : decode cX12_opens 56 = .ok (.iaload, 1) := by decide +kernel
theorem dX12_opens_57 : decode cX12_opens 57 = .ok (.invokevirtual 84, 3) := by decide +kernel
theorem dX12_opens_60 : decode cX12_opens 60 = .ok (.aload_n 0, 1) := by decide +kernel
theorem dX12_opens_61 : decode cX12_opens 61 = .ok (.iload 4, 2) := by decide +kernel
theorem dX12_opens_63 : decode cX12_opens 63 = .ok (.iconst 3, 1) := by decide +kernel
theorem dX12_opens_64 : decode cX12_opens 64 = .ok (.iconst 0, 1) := by decide +kernel
theorem dX12_opens_65 : decode cX12_opens 65 = .ok (.invokevirtual 84, 3) := by decide +kernel
theorem dX12_opens_68 : decode cX12_opens 68 = .ok (.aload_n 0, 1) := by decide +kernel
theorem dX12_opens_69 : decode cX12_opens 69 = .ok (.iload 4, 2) := by decide +kernel
theorem dX12_opens_71 : decode cX12_opens 71 = .ok (.iconst 4, 1) := by decide +kernel
theorem dX12_opens_72 : decode cX12_opens 72 = .ok (.iload_n 2, 1) := by decide +kernel
theorem dX12_opens_73 : decode cX12_opens 73 = .ok (.invokevirtual 84, 3) := by decide +kernel
theorem dX12_opens_76 : decode cX12_opens 76 = .ok (.aload_n 0, 1) := by decide +kernel
theorem dX12_opens_77 : decode cX12_opens 77 = .ok (.iload 4, 2) := by decide +kernel
theorem dX12_opens_79 : decode cX12_opens 79 = .ok (.iconst 5, 1) := by decide +kernel
theorem dX12_opens_80 : decode cX12_opens 80 = .ok (.iload_n 3, 1) := by decide +kernel
theorem dX12_opens_81 : decode cX12_opens 81 = .ok (.invokevirtual 84, 3) := by decide +kernel
theorem dX12_opens_84 : decode cX12_opens 84 = .ok (.aload_n 0, 1) := by decide +kernel
theorem dX12_opens_85 : decode cX12_opens 85 = .ok (.iload 4, 2) := by decide +kernel
theorem dX12_opens_87 : decode cX12_opens 87 = .ok (.iconst 0, 1) := by decide +kernel
theorem dX12_opens_88 : decode cX12_opens 88 = .ok (.invokevirtual 88, 3) := by decide +kernel
theorem dX12_opens_91 : decode cX12_opens 91 = .ok (.iload 4, 2) := by decide +kernel
theorem dX12_opens_93 : decode cX12_opens 93 = .ok (.ireturn, 1) := by decide +kernel
theorem dX12_tries_0 : decode cX12_tries 0 = .ok (.aload_n 0, 1) := by decide +kernel
theorem dX12_tries_1 : decode cX12_tries 1 = .ok (.iload_n 2, 1) := by decide +kernel
theorem dX12_tries_2 : decode cX12_tries 2 = .ok (.iload_n 3, 1) := by decide +kernel
theorem dX12_tries_3 : decode cX12_tries 3 = .ok (.iconst 1, 1) := by decide +kernel
theorem dX12_tries_4 : decode cX12_tries 4 = .ok (.invokevirtual 61, 3) := by decide +kernel
theorem dX12_tries_7 : decode cX12_tries 7 = .ok (.lstore 4, 2) := by decide +kernel
theorem dX12_tries_9 : decode cX12_tries 9 = .ok (.aload_n 0, 1) := by decide +kernel
theorem dX12_tries_10 : decode cX12_tries 10 = .ok (.iload_n 2, 1) := by decide +kernel
theorem dX12_tries_11 : decode cX12_tries 11 = .ok (.iload_n 3, 1) := by decide +kernel
theorem dX12_tries_12 : decode cX12_tries 12 = .ok (.iconst 2, 1) := by decide +kernel
theorem dX12_tries_13 : decode cX12_tries 13 = .ok (.invokevirtual 61, 3) := by decide +kernel
theorem dX12_tries_16 : decode cX12_tries 16 = .ok (.lstore 6, 2) := by decide +kernel
theorem dX12_tries_18 : decode cX12_tries 18 = .ok (.lload 4, 2) := by decide +kernel
theorem dX12_tries_20 : decode cX12_tries 20 = .ok (.lload 4, 2) := by decide +kernel
theorem dX12_tries_22 : decode cX12_tries 22 = .ok (.lmul, 1) := by decide +kernel
theorem dX12_tries_23 : decode cX12_tries 23 = .ok (.lload 6, 2) := by decide +kernel
theorem dX12_tries_25 : decode cX12_tries 25 = .ok (.lload 6, 2) := by decide +kernel
theorem dX12_tries_27 : decode cX12_tries 27 = .ok (.lmul, 1) := by decide +kernel
theorem dX12_tries_28 : decode cX12_tries 28 = .ok (.ladd, 1) := by decide +kernel
theorem dX12_tries_29 : decode cX12_tries 29 = .ok (.lstore 8, 2) := by decide +kernel
theorem dX12_tries_31 : decode cX12_tries 31 = .ok (.lload 8, 2) := by decide +kernel
theorem dX12_tries_33 : decode cX12_tries 33 = .ok (.lconst 0, 1) := by decide +kernel
theorem dX12_tries_34 : decode cX12_tries 34 = .ok (.lcmp, 1) := by decide +kernel
theorem dX12_tries_35 : decode cX12_tries 35 = .ok (.ifCond .ne 5, 3) := by decide +kernel
theorem dX12_tries_38 : decode cX12_tries 38 = .ok (.iconst 0, 1) := by decide +kernel
theorem dX12_tries_39 : decode cX12_tries 39 = .ok (.ireturn, 1) := by decide +kernel
theorem dX12_tries_40 : decode cX12_tries 40 = .ok (.aload_n 0, 1) := by decide +kernel
theorem dX12_tries_41 : decode cX12_tries 41 = .ok (.iload_n 1, 1) := by decide +kernel
theorem dX12_tries_42 : decode cX12_tries 42 = .ok (.iconst 2, 1) := by decide +kernel
theorem dX12_tries_43 : decode cX12_tries 43 = .ok (.invokevirtual 92, 3) := by decide +kernel
theorem dX12_tries_46 : decode cX12_tries 46 = .ok (.i2l, 1) := by decide +kernel
theorem dX12_tries_47 : decode cX12_tries 47 = .ok (.aload_n 0, 1) := by decide +kernel
theorem dX12_tries_48 : decode cX12_tries 48 = .ok (.iload_n 1, 1) := by decide +kernel
theorem dX12_tries_49 : decode cX12_tries 49 = .ok (.iconst 1, 1) := by decide +kernel
theorem dX12_tries_50 : decode cX12_tries 50 = .ok (.invokevirtual 92, 3) := by decide +kernel
theorem dX12_tries_53 : decode cX12_tries 53 = .ok (.i2l, 1) := by decide +kernel
theorem dX12_tries_54 : decode cX12_tries 54 = .ok (.lmul, 1) := by decide +kernel
theorem dX12_tries_55 : decode cX12_tries 55 = .ok (.lstore 10, 2) := by decide +kernel
theorem dX12_tries_57 : decode cX12_tries 57 = .ok (.lload 8, 2) := by decide +kernel
theorem dX12_tries_59 : decode cX12_tries 59 = .ok (.invokestatic 95, 3) := by decide +kernel
theorem dX12_tries_62 : decode cX12_tries 62 = .ok (.lstore 12, 2) := by decide +kernel
theorem dX12_tries_64 : decode cX12_tries 64 = .ok (.aload_n 0, 1) := by decide +kernel
theorem dX12_tries_65 : decode cX12_tries 65 = .ok (.iload_n 2, 1) := by decide +kernel
theorem dX12_tries_66 : decode cX12_tries 66 = .ok (.i2l, 1) := by decide +kernel
theorem dX12_tries_67 : decode cX12_tries 67 = .ok (.lload 10, 2) := by decide +kernel
theorem dX12_tries_69 : decode cX12_tries 69 = .ok (.lload 6, 2) := by decide +kernel
theorem dX12_tries_71 : decode cX12_tries 71 = .ok (.lmul, 1) := by decide +kernel
theorem dX12_tries_72 : decode cX12_tries 72 = .ok (.lload 12, 2) := by decide +kernel
theorem dX12_tries_74 : decode cX12_tries 74 = .ok (.ldiv, 1) := by decide +kernel
theorem dX12_tries_75 : decode cX12_tries 75 = .ok (.lsub, 1) := by decide +kernel
theorem dX12_tries_76 : decode cX12_tries 76 = .ok (.iload_n 3, 1) := by decide +kernel
theorem dX12_tries_77 : decode cX12_tries 77 = .ok (.i2l, 1) := by decide +kernel
theorem dX12_tries_78 : decode cX12_tries 78 = .ok (.lload 10, 2) := by decide +kernel
theorem dX12_tries_80 : decode cX12_tries 80 = .ok (.lload 4, 2) := by decide +kernel
theorem dX12_tries_82 : decode cX12_tries 82 = .ok (.lmul, 1) := by decide +kernel
theorem dX12_tries_83 : decode cX12_tries 83 = .ok (.lload 12, 2) := by decide +kernel
theorem dX12_tries_85 : decode cX12_tries 85 = .ok (.ldiv, 1) := by decide +kernel
theorem dX12_tries_86 : decode cX12_tries 86 = .ok (.ladd, 1) := by decide +kernel
theorem dX12_tries_87 : decode cX12_tries 87 = .ok (.invokevirtual 99, 3) := by decide +kernel
theorem dX12_tries_90 : decode cX12_tries 90 = .ok (.ifCond .eq 23, 3) := by decide +kernel
theorem dX12_tries_93 : decode cX12_tries 93 = .ok (.aload_n 0, 1) := by decide +kernel
theorem dX12_tries_94 : decode cX12_tries 94 = .ok (.getfield 55, 3) := by decide +kernel
theorem dX12_tries_97 : decode cX12_tries 97 = .ok (.iload_n 2, 1) := by decide +kernel
theorem dX12_tries_98 : decode cX12_tries 98 = .ok (.if_icmp .ne 11, 3) := by decide +kernel
theorem dX12_tries_101 : decode cX12_tries 101 = .ok (.aload_n 0, 1) := by decide +kernel
theorem dX12_tries_102 : decode cX12_tries 102 = .ok (.getfield 58, 3) := by decide +kernel
theorem dX12_tries_105 : decode cX12_tries 105 = .ok (.iload_n 3, 1) := by decide +kernel
theorem dX12_tries_106 : decode cX12_tries 106 = .ok (.if_icmp .eq 7, 3) := by decide +kernel
theorem dX12_tries_109 : decode cX12_tries 109 = .ok (.iconst 1, 1) := by decide +kernel
theorem dX12_tries_110 : decode cX12_tries 110 = .ok (.goto 4, 3) := by decide +kernel
theorem dX12_tries_113 : decode cX12_tries 113 = .ok (.iconst 0, 1) := by decide +kernel
theorem dX12_tries_114 : decode cX12_tries 114 = .ok (.ireturn, 1) := by decide +kernel
theorem dX12_arrives_0 : decode cX12_arrives 0 = .ok (.aload_n 0, 1) := by decide +kernel
theorem dX12_arrives_1 : decode cX12_arrives 1 = .ok (.aload_n 0, 1) := by decide +kernel
theorem dX12_arrives_2 : decode cX12_arrives 2 = .ok (.getfield 55, 3) := by decide +kernel
theorem dX12_arrives_5 : decode cX12_arrives 5 = .ok (.aload_n 0, 1) := by decide +kernel
theorem dX12_arrives_6 : decode cX12_arrives 6 = .ok (.getfield 58, 3) := by decide +kernel
theorem dX12_arrives_9 : decode cX12_arrives 9 = .ok (.iconst 1, 1) := by decide +kernel
theorem dX12_arrives_10 : decode cX12_arrives 10 = .ok (.invokevirtual 61, 3) := by decide +kernel
theorem dX12_arrives_13 : decode cX12_arrives 13 = .ok (.lstore 4, 2) := by decide +kernel
theorem dX12_arrives_15 : decode cX12_arrives 15 = .ok (.aload_n 0, 1) := by decide +kernel
theorem dX12_arrives_16 : decode cX12_arrives 16 = .ok (.aload_n 0, 1) := by decide +kernel
theorem dX12_arrives_17 : decode cX12_arrives 17 = .ok (.getfield 55, 3) := by decide +kernel
theorem dX12_arrives_20 : decode cX12_arrives 20 = .ok (.aload_n 0, 1) := by decide +kernel
theorem dX12_arrives_21 : decode cX12_arrives 21 = .ok (.getfield 58, 3) := by decide +kernel
theorem dX12_arrives_24 : decode cX12_arrives 24 = .ok (.iconst 2, 1) := by decide +kernel
theorem dX12_arrives_25 : decode cX12_arrives 25 = .ok (.invokevirtual 61, 3) := by decide +kernel
theorem dX12_arrives_28 : decode cX12_arrives 28 = .ok (.lstore 6, 2) := by decide +kernel
theorem dX12_arrives_30 : decode cX12_arrives 30 = .ok (.lload 4, 2) := by decide +kernel
theorem dX12_arrives_32 : decode cX12_arrives 32 = .ok (.aload_n 0, 1) := by decide +kernel
theorem dX12_arrives_33 : decode cX12_arrives 33 = .ok (.getfield 58, 3) := by decide +kernel
theorem dX12_arrives_36 : decode cX12_arrives 36 = .ok (.iload_n 3, 1) := by decide +kernel
theorem dX12_arrives_37 : decode cX12_arrives 37 = .ok (.isub, 1) := by decide +kernel
theorem dX12_arrives_38 : decode cX12_arrives 38 = .ok (.i2l, 1) := by decide +kernel
theorem dX12_arrives_39 : decode cX12_arrives 39 = .ok (.lmul, 1) := by decide +kernel
theorem dX12_arrives_40 : decode cX12_arrives 40 = .ok (.lload 6, 2) := by decide +kernel
theorem dX12_arrives_42 : decode cX12_arrives 42 = .ok (.aload_n 0, 1) := by decide +kernel
theorem dX12_arrives_43 : decode cX12_arrives 43 = .ok (.getfield 55, 3) := by decide +kernel
theorem dX12_arrives_46 : decode cX12_arrives 46 = .ok (.iload_n 2, 1) := by decide +kernel
theorem dX12_arrives_47 : decode cX12_arrives 47 = .ok (.isub, 1) := by decide +kernel
theorem dX12_arrives_48 : decode cX12_arrives 48 = .ok (.i2l, 1) := by decide +kernel
theorem dX12_arrives_49 : decode cX12_arrives 49 = .ok (.lmul, 1) := by decide +kernel
theorem dX12_arrives_50 : decode cX12_arrives 50 = .ok (.lsub, 1) := by decide +kernel
theorem dX12_arrives_51 : decode cX12_arrives 51 = .ok (.aload_n 0, 1) := by decide +kernel
theorem dX12_arrives_52 : decode cX12_arrives 52 = .ok (.iload_n 1, 1) := by decide +kernel
theorem dX12_arrives_53 : decode cX12_arrives 53 = .ok (.iconst 1, 1) := by decide +kernel
theorem dX12_arrives_54 : decode cX12_arrives 54 = .ok (.invokevirtual 92, 3) := by decide +kernel
theorem dX12_arrives_57 : decode cX12_arrives 57 = .ok (.i2l, 1) := by decide +kernel
theorem dX12_arrives_58 : decode cX12_arrives 58 = .ok (.lmul, 1) := by decide +kernel
theorem dX12_arrives_59 : decode cX12_arrives 59 = .ok (.lstore 8, 2) := by decide +kernel
theorem dX12_arrives_61 : decode cX12_arrives 61 = .ok (.aload_n 0, 1) := by decide +kernel
theorem dX12_arrives_62 : decode cX12_arrives 62 = .ok (.iload_n 2, 1) := by decide +kernel
theorem dX12_arrives_63 : decode cX12_arrives 63 = .ok (.iload_n 3, 1) := by decide +kernel
theorem dX12_arrives_64 : decode cX12_arrives 64 = .ok (.iconst 2, 1) := by decide +kernel
theorem dX12_arrives_65 : decode cX12_arrives 65 = .ok (.invokevirtual 61, 3) := by decide +kernel
theorem dX12_arrives_68 : decode cX12_arrives 68 = .ok (.lstore 10, 2) := by decide +kernel
theorem dX12_arrives_70 : decode cX12_arrives 70 = .ok (.lload 10, 2) := by decide +kernel
theorem dX12_arrives_72 : decode cX12_arrives 72 = .ok (.lconst 0, 1) := by decide +kernel
theorem dX12_arrives_73 : decode cX12_arrives 73 = .ok (.lcmp, 1) := by decide +kernel
theorem dX12_arrives_74 : decode cX12_arrives 74 = .ok (.ifCond .ge 10, 3) := by decide +kernel
theorem dX12_arrives_77 : decode cX12_arrives 77 = .ok (.lload 6, 2) := by decide +kernel
theorem dX12_arrives_79 : decode cX12_arrives 79 = .ok (.lconst 0, 1) := by decide +kernel
theorem dX12_arrives_80 : decode cX12_arrives 80 = .ok (.lcmp, 1) := by decide +kernel
theorem dX12_arrives_81 : decode cX12_arrives 81 = .ok (.ifCond .gt 17, 3) := by decide +kernel
theorem dX12_arrives_84 : decode cX12_arrives 84 = .ok (.lload 10, 2) := by decide +kernel
theorem dX12_arrives_86 : decode cX12_arrives 86 = .ok (.lconst 0, 1) := by decide +kernel
theorem dX12_arrives_87 : decode cX12_arrives 87 = .ok (.lcmp, 1) := by decide +kernel
theorem dX12_arrives_88 : decode cX12_arrives 88 = .ok (.ifCond .le 14, 3) := by decide +kernel
theorem dX12_arrives_91 : decode cX12_arrives 91 = .ok (.lload 6, 2) := by decide +kernel
theorem dX12_arrives_93 : decode cX12_arrives 93 = .ok (.lconst 0, 1) := by decide +kernel
theorem dX12_arrives_94 : decode cX12_arrives 94 = .ok (.lcmp, 1) := by decide +kernel
theorem dX12_arrives_95 : decode cX12_arrives 95 = .ok (.ifCond .ge 7, 3) := by decide +kernel
theorem dX12_arrives_98 : decode cX12_arrives 98 = .ok (.iconst 1, 1) := by decide +kernel
theorem dX12_arrives_99 : decode cX12_arrives 99 = .ok (.goto 4, 3) := by decide +kernel
theorem dX12_arrives_102 : decode cX12_arrives 102 = .ok (.iconst 0, 1) := by decide +kernel
theorem dX12_arrives_103 : decode cX12_arrives 103 = .ok (.istore 12, 2) := by decide +kernel
theorem dX12_arrives_105 : decode cX12_arrives 105 = .ok (.aload_n 0, 1) := by decide +kernel
theorem dX12_arrives_106 : decode cX12_arrives 106 = .ok (.iload_n 1, 1) := by decide +kernel
theorem dX12_arrives_107 : decode cX12_arrives 107 = .ok (.iconst 1, 1) := by decide +kernel
theorem dX12_arrives_108 : decode cX12_arrives 108 = .ok (.lload 8, 2) := by decide +kernel
theorem dX12_arrives_110 : decode cX12_arrives 110 = .ok (.lconst 0, 1) := by decide +kernel
theorem dX12_arrives_111 : decode cX12_arrives 111 = .ok (.lcmp, 1) := by decide +kernel
theorem dX12_arrives_112 : decode cX12_arrives 112 = .ok (.ifCond .ge 13, 3) := by decide +kernel
theorem dX12_arrives_115 : decode cX12_arrives 115 = .ok (.aload_n 0, 1) := by decide +kernel
theorem dX12_arrives_116 : decode cX12_arrives 116 = .ok (.iload_n 1, 1) := by decide +kernel
theorem dX12_arrives_117 : decode cX12_arrives 117 = .ok (.iconst 1, 1) := by decide +kernel
theorem dX12_arrives_118 : decode cX12_arrives 118 = .ok (.invokevirtual 92, 3) := by decide +kernel
theorem dX12_arrives_121 : decode cX12_arrives 121 = .ok (.ineg, 1) := by decide +kernel
theorem dX12_arrives_122 : decode cX12_arrives 122 = .ok (.goto 9, 3) := by decide +kernel
theorem dX12_arrives_125 : decode cX12_arrives 125 = .ok (.aload_n 0, 1) := by decide +kernel
theorem dX12_arrives_126 : decode cX12_arrives 126 = .ok (.iload_n 1, 1) := by decide +kernel
theorem dX12_arrives_127 : decode cX12_arrives 127 = .ok (.iconst 1, 1) := by decide +kernel
theorem dX12_arrives_128 : decode cX12_arrives 128 = .ok (.invokevirtual 92, 3) := by decide +kernel
theorem dX12_arrives_131 : decode cX12_arrives 131 = .ok (.invokevirtual 84, 3) := by decide +kernel
theorem dX12_arrives_134 : decode cX12_arrives 134 = .ok (.aload_n 0, 1) := by decide +kernel
theorem dX12_arrives_135 : decode cX12_arrives 135 = .ok (.iload_n 1, 1) := by decide +kernel
theorem dX12_arrives_136 : decode cX12_arrives 136 = .ok (.lload 8, 2) := by decide +kernel
theorem dX12_arrives_138 : decode cX12_arrives 138 = .ok (.lconst 0, 1) := by decide +kernel
theorem dX12_arrives_139 : decode cX12_arrives 139 = .ok (.lcmp, 1) := by decide +kernel
theorem dX12_arrives_140 : decode cX12_arrives 140 = .ok (.ifCond .ge 7, 3) := by decide +kernel
theorem dX12_arrives_143 : decode cX12_arrives 143 = .ok (.iconst 2, 1) := by decide +kernel
theorem dX12_arrives_144 : decode cX12_arrives 144 = .ok (.goto 13, 3) := by decide +kernel
theorem dX12_arrives_147 : decode cX12_arrives 147 = .ok (.iload 12, 2) := by decide +kernel
theorem dX12_arrives_149 : decode cX12_arrives 149 = .ok (.ifCond .eq 7, 3) := by decide +kernel
theorem dX12_arrives_152 : decode cX12_arrives 152 = .ok (.iconst 1, 1) := by decide +kernel
theorem dX12_arrives_153 : decode cX12_arrives 153 = .ok (.goto 4, 3) := by decide +kernel
theorem dX12_arrives_156 : decode cX12_arrives 156 = .ok (.iconst 0, 1) := by decide +kernel
theorem dX12_arrives_157 : decode cX12_arrives 157 = .ok (.invokevirtual 88, 3) := by decide +kernel
theorem dX12_arrives_160 : decode cX12_arrives 160 = .ok (.aload_n 0, 1) := by decide +kernel
theorem dX12_arrives_161 : decode cX12_arrives 161 = .ok (.iload_n 1, 1) := by decide +kernel
theorem dX12_arrives_162 : decode cX12_arrives 162 = .ok (.iconst 2, 1) := by decide +kernel
theorem dX12_arrives_163 : decode cX12_arrives 163 = .ok (.invokevirtual 92, 3) := by decide +kernel
theorem dX12_arrives_166 : decode cX12_arrives 166 = .ok (.istore 13, 2) := by decide +kernel
theorem dX12_arrives_168 : decode cX12_arrives 168 = .ok (.aload_n 0, 1) := by decide +kernel
theorem dX12_arrives_169 : decode cX12_arrives 169 = .ok (.getfield 65, 3) := by decide +kernel
theorem dX12_arrives_172 : decode cX12_arrives 172 = .ok (.iconst 2, 1) := by decide +kernel
theorem dX12_arrives_173 : decode cX12_arrives 173 = .ok (.if_icmp .gt 34, 3) := by decide +kernel
theorem dX12_arrives_176 : decode cX12_arrives 176 = .ok (.iconst 2, 1) := by decide +kernel
theorem dX12_arrives_177 : decode cX12_arrives 177 = .ok (.iload 13, 2) := by decide +kernel
theorem dX12_arrives_179 : decode cX12_arrives 179 = .ok (.imul, 1) := by decide +kernel
theorem dX12_arrives_180 : decode cX12_arrives 180 = .ok (.aload_n 0, 1) := by decide +kernel
theorem dX12_arrives_181 : decode cX12_arrives 181 = .ok (.getfield 7, 3) := by decide +kernel
theorem dX12_arrives_184 : decode cX12_arrives 184 = .ok (.iconst 3, 1) := by decide +kernel
theorem dX12_arrives_185 : decode cX12_arrives 185 = .ok (.iaload, 1) := by decide +kernel
theorem dX12_arrives_186 : decode cX12_arrives 186 = .ok (.if_icmp .le 12, 3) := by decide +kernel
theorem dX12_arrives_189 : decode cX12_arrives 189 = .ok (.aload_n 0, 1) := by decide +kernel
theorem dX12_arrives_190 : decode cX12_arrives 190 = .ok (.getfield 7, 3) := by decide +kernel
theorem dX12_arrives_193 : decode cX12_arrives 193 = .ok (.iconst 3, 1) := by decide +kernel
theorem dX12_arrives_194 : decode cX12_arrives 194 = .ok (.iaload, 1) := by decide +kernel
theorem dX12_arrives_195 : decode cX12_arrives 195 = .ok (.goto 7, 3) := by decide +kernel
theorem dX12_arrives_198 : decode cX12_arrives 198 = .ok (.iconst 2, 1) := by decide +kernel
theorem dX12_arrives_199 : decode cX12_arrives 199 = .ok (.iload 13, 2) := by decide +kernel
theorem dX12_arrives_201 : decode cX12_arrives 201 = .ok (.imul, 1) := by decide +kernel
theorem dX12_arrives_202 : decode cX12_arrives 202 = .ok (.istore 13, 2) := by decide +kernel
theorem dX12_arrives_204 : decode cX12_arrives 204 = .ok (.goto 29, 3) := by decide +kernel
theorem dX12_arrives_207 : decode cX12_arrives 207 = .ok (.aload_n 0, 1) := by decide +kernel
theorem dX12_arrives_208 : decode cX12_arrives 208 = .ok (.getfield 65, 3) := by decide +kernel
theorem dX12_arrives_211 : decode cX12_arrives 211 = .ok (.iconst 5, 1) := by decide +kernel
theorem dX12_arrives_212 : decode cX12_arrives 212 = .ok (.if_icmp .lt 21, 3) := by decide +kernel
theorem dX12_arrives_215 : decode cX12_arrives 215 = .ok (.iload 13, 2) := by decide +kernel
theorem dX12_arrives_217 : decode cX12_arrives 217 = .ok (.iconst 2, 1) := by decide +kernel
theorem dX12_arrives_218 : decode cX12_arrives 218 = .ok (.idiv, 1) := by decide +kernel
theorem dX12_arrives_219 : decode cX12_arrives 219 = .ok (.iconst 1, 1) := by decide +kernel
theorem dX12_arrives_220 : decode cX12_arrives 220 = .ok (.if_icmp .ge 7, 3) := by decide +kernel
theorem dX12_arrives_223 : decode cX12_arrives 223 = .ok (.iconst 1, 1) := by decide +kernel
theorem dX12_arrives_224 : decode cX12_arrives 224 = .ok (.goto 7, 3) := by decide +kernel
theorem dX12_arrives_227 : decode cX12_arrives 227 = .ok (.iload 13, 2) := by decide +kernel
theorem dX12_arrives_229 : decode cX12_arrives 229 = .ok (.iconst 2, 1) := by decide +kernel
theorem dX12_arrives_230 : decode cX12_arrives 230 = .ok (.idiv, 1) := by decide +kernel
theorem dX12_arrives_231 : decode cX12_arrives 231 = .ok (.istore 13, 2) := by decide +kernel
theorem dX12_arrives_233 : decode cX12_arrives 233 = .ok (.aload_n 0, 1) := by decide +kernel
theorem dX12_arrives_234 : decode cX12_arrives 234 = .ok (.iload_n 1, 1) := by decide +kernel
theorem dX12_arrives_235 : decode cX12_arrives 235 = .ok (.iconst 2, 1) := by decide +kernel
theorem dX12_arrives_236 : decode cX12_arrives 236 = .ok (.iload 13, 2) := by decide +kernel
theorem dX12_arrives_238 : decode cX12_arrives 238 = .ok (.invokevirtual 84, 3) := by decide +kernel
theorem dX12_arrives_241 : decode cX12_arrives 241 = .ok (.return_, 1) := by decide +kernel
theorem dX12_goes_0 : decode cX12_goes 0 = .ok (.aload_n 0, 1) := by decide +kernel
