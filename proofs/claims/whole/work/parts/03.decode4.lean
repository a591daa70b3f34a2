theorem dX12_goes_1 : decode cX12_goes 1 = .ok (.iload_n 1, 1) := by decide +kernel
theorem dX12_goes_2 : decode cX12_goes 2 = .ok (.invokevirtual 80, 3) := by decide +kernel
theorem dX12_goes_5 : decode cX12_goes 5 = .ok (.iconst 1, 1) := by decide +kernel
theorem dX12_goes_6 : decode cX12_goes 6 = .ok (.isub, 1) := by decide +kernel
theorem dX12_goes_7 : decode cX12_goes 7 = .ok (.istore_n 2, 1) := by decide +kernel
theorem dX12_goes_8 : decode cX12_goes 8 = .ok (.aload_n 0, 1) := by decide +kernel
theorem dX12_goes_9 : decode cX12_goes 9 = .ok (.iload_n 1, 1) := by decide +kernel
theorem dX12_goes_10 : decode cX12_goes 10 = .ok (.iload_n 2, 1) := by decide +kernel
theorem dX12_goes_11 : decode cX12_goes 11 = .ok (.iconst 0, 1) := by decide +kernel
theorem dX12_goes_12 : decode cX12_goes 12 = .ok (.invokevirtual 103, 3) := by decide +kernel
theorem dX12_goes_15 : decode cX12_goes 15 = .ok (.istore_n 3, 1) := by decide +kernel
theorem dX12_goes_16 : decode cX12_goes 16 = .ok (.aload_n 0, 1) := by decide +kernel
theorem dX12_goes_17 : decode cX12_goes 17 = .ok (.iload_n 1, 1) := by decide +kernel
theorem dX12_goes_18 : decode cX12_goes 18 = .ok (.iload_n 2, 1) := by decide +kernel
theorem dX12_goes_19 : decode cX12_goes 19 = .ok (.iconst 1, 1) := by decide +kernel
theorem dX12_goes_20 : decode cX12_goes 20 = .ok (.invokevirtual 103, 3) := by decide +kernel
theorem dX12_goes_23 : decode cX12_goes 23 = .ok (.istore 4, 2) := by decide +kernel
theorem dX12_goes_25 : decode cX12_goes 25 = .ok (.aload_n 0, 1) := by decide +kernel
theorem dX12_goes_26 : decode cX12_goes 26 = .ok (.iload_n 1, 1) := by decide +kernel
theorem dX12_goes_27 : decode cX12_goes 27 = .ok (.iconst 2, 1) := by decide +kernel
theorem dX12_goes_28 : decode cX12_goes 28 = .ok (.invokevirtual 92, 3) := by decide +kernel
theorem dX12_goes_31 : decode cX12_goes 31 = .ok (.ifCond .le 41, 3) := by decide +kernel
theorem dX12_goes_34 : decode cX12_goes 34 = .ok (.aload_n 0, 1) := by decide +kernel
theorem dX12_goes_35 : decode cX12_goes 35 = .ok (.iload_n 1, 1) := by decide +kernel
theorem dX12_goes_36 : decode cX12_goes 36 = .ok (.iload_n 3, 1) := by decide +kernel
theorem dX12_goes_37 : decode cX12_goes 37 = .ok (.iload 4, 2) := by decide +kernel
theorem dX12_goes_39 : decode cX12_goes 39 = .ok (.invokevirtual 107, 3) := by decide +kernel
theorem dX12_goes_42 : decode cX12_goes 42 = .ok (.ifCond .eq 13, 3) := by decide +kernel
theorem dX12_goes_45 : decode cX12_goes 45 = .ok (.aload_n 0, 1) := by decide +kernel
theorem dX12_goes_46 : decode cX12_goes 46 = .ok (.iload_n 1, 1) := by decide +kernel
theorem dX12_goes_47 : decode cX12_goes 47 = .ok (.iload_n 3, 1) := by decide +kernel
theorem dX12_goes_48 : decode cX12_goes 48 = .ok (.iload 4, 2) := by decide +kernel
theorem dX12_goes_50 : decode cX12_goes 50 = .ok (.invokevirtual 110, 3) := by decide +kernel
theorem dX12_goes_53 : decode cX12_goes 53 = .ok (.iconst 1, 1) := by decide +kernel
theorem dX12_goes_54 : decode cX12_goes 54 = .ok (.ireturn, 1) := by decide +kernel
theorem dX12_goes_55 : decode cX12_goes 55 = .ok (.aload_n 0, 1) := by decide +kernel
theorem dX12_goes_56 : decode cX12_goes 56 = .ok (.iload_n 1, 1) := by decide +kernel
theorem dX12_goes_57 : decode cX12_goes 57 = .ok (.iconst 2, 1) := by decide +kernel
theorem dX12_goes_58 : decode cX12_goes 58 = .ok (.aload_n 0, 1) := by decide +kernel
theorem dX12_goes_59 : decode cX12_goes 59 = .ok (.iload_n 1, 1) := by decide +kernel
theorem dX12_goes_60 : decode cX12_goes 60 = .ok (.iconst 2, 1) := by decide +kernel
theorem dX12_goes_61 : decode cX12_goes 61 = .ok (.invokevirtual 92, 3) := by decide +kernel
theorem dX12_goes_64 : decode cX12_goes 64 = .ok (.iconst 2, 1) := by decide +kernel
theorem dX12_goes_65 : decode cX12_goes 65 = .ok (.idiv, 1) := by decide +kernel
theorem dX12_goes_66 : decode cX12_goes 66 = .ok (.invokevirtual 84, 3) := by decide +kernel
theorem dX12_goes_69 : decode cX12_goes 69 = .ok (.goto (-44), 3) := by decide +kernel
theorem dX12_goes_72 : decode cX12_goes 72 = .ok (.aload_n 0, 1) := by decide +kernel
theorem dX12_goes_73 : decode cX12_goes 73 = .ok (.iload_n 1, 1) := by decide +kernel
theorem dX12_goes_74 : decode cX12_goes 74 = .ok (.iconst 3, 1) := by decide +kernel
theorem dX12_goes_75 : decode cX12_goes 75 = .ok (.iconst 1, 1) := by decide +kernel
theorem dX12_goes_76 : decode cX12_goes 76 = .ok (.invokevirtual 84, 3) := by decide +kernel
theorem dX12_goes_79 : decode cX12_goes 79 = .ok (.iconst 0, 1) := by decide +kernel
theorem dX12_goes_80 : decode cX12_goes 80 = .ok (.ireturn, 1) := by decide +kernel
theorem dX12_stateOf_0 : decode cX12_stateOf 0 = .ok (.aload_n 0, 1) := by decide +kernel
theorem dX12_stateOf_1 : decode cX12_stateOf 1 = .ok (.iload_n 1, 1) := by decide +kernel
theorem dX12_stateOf_2 : decode cX12_stateOf 2 = .ok (.iconst 3, 1) := by decide +kernel
theorem dX12_stateOf_3 : decode cX12_stateOf 3 = .ok (.invokevirtual 92, 3) := by decide +kernel
theorem dX12_stateOf_6 : decode cX12_stateOf 6 = .ok (.iconst 1, 1) := by decide +kernel
theorem dX12_stateOf_7 : decode cX12_stateOf 7 = .ok (.if_icmp .ne 7, 3) := by decide +kernel
theorem dX12_stateOf_10 : decode cX12_stateOf 10 = .ok (.iconst 1, 1) := by decide +kernel
theorem dX12_stateOf_11 : decode cX12_stateOf 11 = .ok (.goto 18, 3) := by decide +kernel
theorem dX12_stateOf_14 : decode cX12_stateOf 14 = .ok (.aload_n 0, 1) := by decide +kernel
theorem dX12_stateOf_15 : decode cX12_stateOf 15 = .ok (.iload_n 1, 1) := by decide +kernel
theorem dX12_stateOf_16 : decode cX12_stateOf 16 = .ok (.invokevirtual 80, 3) := by decide +kernel
theorem dX12_stateOf_19 : decode cX12_stateOf 19 = .ok (.bipush 40, 2) := by decide +kernel
theorem dX12_stateOf_21 : decode cX12_stateOf 21 = .ok (.if_icmp .ne 7, 3) := by decide +kernel
theorem dX12_stateOf_24 : decode cX12_stateOf 24 = .ok (.iconst 2, 1) := by decide +kernel
theorem dX12_stateOf_25 : decode cX12_stateOf 25 = .ok (.goto 4, 3) := by decide +kernel
theorem dX12_stateOf_28 : decode cX12_stateOf 28 = .ok (.iconst 0, 1) := by decide +kernel
theorem dX12_stateOf_29 : decode cX12_stateOf 29 = .ok (.ireturn, 1) := by decide +kernel
theorem dX12_walks_0 : decode cX12_walks 0 = .ok (.aload_n 0, 1) := by decide +kernel
theorem dX12_walks_1 : decode cX12_walks 1 = .ok (.iload_n 1, 1) := by decide +kernel
theorem dX12_walks_2 : decode cX12_walks 2 = .ok (.invokevirtual 113, 3) := by decide +kernel
theorem dX12_walks_5 : decode cX12_walks 5 = .ok (.ifCond .eq 6, 3) := by decide +kernel
theorem dX12_walks_8 : decode cX12_walks 8 = .ok (.ldc 116, 2) := by decide +kernel
theorem dX12_walks_10 : decode cX12_walks 10 = .ok (.ireturn, 1) := by decide +kernel
theorem dX12_walks_11 : decode cX12_walks 11 = .ok (.iconst 0, 1) := by decide +kernel
theorem dX12_walks_12 : decode cX12_walks 12 = .ok (.istore_n 3, 1) := by decide +kernel
theorem dX12_walks_13 : decode cX12_walks 13 = .ok (.iload_n 3, 1) := by decide +kernel
theorem dX12_walks_14 : decode cX12_walks 14 = .ok (.iload_n 2, 1) := by decide +kernel
theorem dX12_walks_15 : decode cX12_walks 15 = .ok (.if_icmp .ge 30, 3) := by decide +kernel
theorem dX12_walks_18 : decode cX12_walks 18 = .ok (.aload_n 0, 1) := by decide +kernel
theorem dX12_walks_19 : decode cX12_walks 19 = .ok (.iload_n 1, 1) := by decide +kernel
theorem dX12_walks_20 : decode cX12_walks 20 = .ok (.invokevirtual 113, 3) := by decide +kernel
theorem dX12_walks_23 : decode cX12_walks 23 = .ok (.ifCond .ne 22, 3) := by decide +kernel
theorem dX12_walks_26 : decode cX12_walks 26 = .ok (.iload_n 3, 1) := by decide +kernel
theorem dX12_walks_27 : decode cX12_walks 27 = .ok (.aload_n 0, 1) := by decide +kernel
theorem dX12_walks_28 : decode cX12_walks 28 = .ok (.iload_n 1, 1) := by decide +kernel
theorem dX12_walks_29 : decode cX12_walks 29 = .ok (.invokevirtual 117, 3) := by decide +kernel
theorem dX12_walks_32 : decode cX12_walks 32 = .ok (.ifCond .eq 7, 3) := by decide +kernel
theorem dX12_walks_35 : decode cX12_walks 35 = .ok (.iconst 1, 1) := by decide +kernel
theorem dX12_walks_36 : decode cX12_walks 36 = .ok (.goto 4, 3) := by decide +kernel
theorem dX12_walks_39 : decode cX12_walks 39 = .ok (.iconst 0, 1) := by decide +kernel
theorem dX12_walks_40 : decode cX12_walks 40 = .ok (.iadd, 1) := by decide +kernel
theorem dX12_walks_41 : decode cX12_walks 41 = .ok (.istore_n 3, 1) := by decide +kernel
theorem dX12_walks_42 : decode cX12_walks 42 = .ok (.goto (-29), 3) := by decide +kernel
theorem dX12_walks_45 : decode cX12_walks 45 = .ok (.iload_n 3, 1) := by decide +kernel
theorem dX12_walks_46 : decode cX12_walks 46 = .ok (.ireturn, 1) := by decide +kernel
theorem dX12_branches_0 : decode cX12_branches 0 = .ok (.aload_n 0, 1) := by decide +kernel
theorem dX12_branches_1 : decode cX12_branches 1 = .ok (.iload_n 1, 1) := by decide +kernel
theorem dX12_branches_2 : decode cX12_branches 2 = .ok (.iload_n 2, 1) := by decide +kernel
theorem dX12_branches_3 : decode cX12_branches 3 = .ok (.iconst 3, 1) := by decide +kernel
theorem dX12_branches_4 : decode cX12_branches 4 = .ok (.invokevirtual 103, 3) := by decide +kernel
theorem dX12_branches_7 : decode cX12_branches 7 = .ok (.iconst 2, 1) := by decide +kernel
theorem dX12_branches_8 : decode cX12_branches 8 = .ok (.if_icmp .eq 6, 3) := by decide +kernel
theorem dX12_branches_11 : decode cX12_branches 11 = .ok (.ldc 116, 2) := by decide +kernel
theorem dX12_branches_13 : decode cX12_branches 13 = .ok (.ireturn, 1) := by decide +kernel
theorem dX12_branches_14 : decode cX12_branches 14 = .ok (.aload_n 0, 1) := by decide +kernel
theorem dX12_branches_15 : decode cX12_branches 15 = .ok (.iload_n 1, 1) := by decide +kernel
theorem dX12_branches_16 : decode cX12_branches 16 = .ok (.iload_n 2, 1) := by decide +kernel
theorem dX12_branches_17 : decode cX12_branches 17 = .ok (.iconst 0, 1) := by decide +kernel
theorem dX12_branches_18 : decode cX12_branches 18 = .ok (.invokevirtual 103, 3) := by decide +kernel
theorem dX12_branches_21 : decode cX12_branches 21 = .ok (.istore 4, 2) := by decide +kernel
theorem dX12_branches_23 : decode cX12_branches 23 = .ok (.aload_n 0, 1) := by decide +kernel
theorem dX12_branches_24 : decode cX12_branches 24 = .ok (.iload_n 1, 1) := by decide +kernel
theorem dX12_branches_25 : decode cX12_branches 25 = .ok (.iload_n 2, 1) := by decide +kernel
theorem dX12_branches_26 : decode cX12_branches 26 = .ok (.iconst 1, 1) := by decide +kernel
theorem dX12_branches_27 : decode cX12_branches 27 = .ok (.invokevirtual 103, 3) := by decide +kernel
theorem dX12_branches_30 : decode cX12_branches 30 = .ok (.istore 5, 2) := by decide +kernel
theorem dX12_branches_32 : decode cX12_branches 32 = .ok (.iload 4, 2) := by decide +kernel
theorem dX12_branches_34 : decode cX12_branches 34 = .ok (.aload_n 0, 1) := by decide +kernel
theorem dX12_branches_35 : decode cX12_branches 35 = .ok (.iload_n 1, 1) := by decide +kernel
theorem dX12_branches_36 : decode cX12_branches 36 = .ok (.iload_n 2, 1) := by decide +kernel
theorem dX12_branches_37 : decode cX12_branches 37 = .ok (.iconst 1, 1) := by decide +kernel
theorem dX12_branches_38 : decode cX12_branches 38 = .ok (.isub, 1) := by decide +kernel
theorem dX12_branches_39 : decode cX12_branches 39 = .ok (.iconst 0, 1) := by decide +kernel
theorem dX12_branches_40 : decode cX12_branches 40 = .ok (.invokevirtual 103, 3) := by decide +kernel
theorem dX12_branches_43 : decode cX12_branches 43 = .ok (.isub, 1) := by decide +kernel
theorem dX12_branches_44 : decode cX12_branches 44 = .ok (.i2l, 1) := by decide +kernel
theorem dX12_branches_45 : decode cX12_branches 45 = .ok (.lstore 6, 2) := by decide +kernel
theorem dX12_branches_47 : decode cX12_branches 47 = .ok (.iload 5, 2) := by decide +kernel
theorem dX12_branches_49 : decode cX12_branches 49 = .ok (.aload_n 0, 1) := by decide +kernel
theorem dX12_branches_50 : decode cX12_branches 50 = .ok (.iload_n 1, 1) := by decide +kernel
theorem dX12_branches_51 : decode cX12_branches 51 = .ok (.iload_n 2, 1) := by decide +kernel
theorem dX12_branches_52 : decode cX12_branches 52 = .ok (.iconst 1, 1) := by decide +kernel
theorem dX12_branches_53 : decode cX12_branches 53 = .ok (.isub, 1) := by decide +kernel
theorem dX12_branches_54 : decode cX12_branches 54 = .ok (.iconst 1, 1) := by decide +kernel
theorem dX12_branches_55 : decode cX12_branches 55 = .ok (.invokevirtual 103, 3) := by decide +kernel
theorem dX12_branches_58 : decode cX12_branches 58 = .ok (.isub, 1) := by decide +kernel
theorem dX12_branches_59 : decode cX12_branches 59 = .ok (.i2l, 1) := by decide +kernel
theorem dX12_branches_60 : decode cX12_branches 60 = .ok (.lstore 8, 2) := by decide +kernel
theorem dX12_branches_62 : decode cX12_branches 62 = .ok (.aload_n 0, 1) := by decide +kernel
theorem dX12_branches_63 : decode cX12_branches 63 = .ok (.getfield 7, 3) := by decide +kernel
theorem dX12_branches_66 : decode cX12_branches 66 = .ok (.iconst 2, 1) := by decide +kernel
theorem dX12_branches_67 : decode cX12_branches 67 = .ok (.iaload, 1) := by decide +kernel
theorem dX12_branches_68 : decode cX12_branches 68 = .ok (.i2l, 1) := by decide +kernel
theorem dX12_branches_69 : decode cX12_branches 69 = .ok (.iload_n 3, 1) := by decide +kernel
theorem dX12_branches_70 : decode cX12_branches 70 = .ok (.i2l, 1) := by decide +kernel
theorem dX12_branches_71 : decode cX12_branches 71 = .ok (.lmul, 1) := by decide +kernel
theorem dX12_branches_72 : decode cX12_branches 72 = .ok (.lstore 10, 2) := by decide +kernel
theorem dX12_branches_74 : decode cX12_branches 74 = .ok (.lload 6, 2) := by decide +kernel
theorem dX12_branches_76 : decode cX12_branches 76 = .ok (.lload 6, 2) := by decide +kernel
theorem dX12_branches_78 : decode cX12_branches 78 = .ok (.lmul, 1) := by decide +kernel
theorem dX12_branches_79 : decode cX12_branches 79 = .ok (.lload 8, 2) := by decide +kernel
theorem dX12_branches_81 : decode cX12_branches 81 = .ok (.lload 8, 2) := by decide +kernel
theorem dX12_branches_83 : decode cX12_branches 83 = .ok (.lmul, 1) := by decide +kernel
theorem dX12_branches_84 : decode cX12_branches 84 = .ok (.ladd, 1) := by decide +kernel
theorem dX12_branches_85 : decode cX12_branches 85 = .ok (.invokestatic 95, 3) := by decide +kernel
theorem dX12_branches_88 : decode cX12_branches 88 = .ok (.lstore 12, 2) := by decide +kernel
theorem dX12_branches_90 : decode cX12_branches 90 = .ok (.aload_n 0, 1) := by decide +kernel
theorem dX12_branches_91 : decode cX12_branches 91 = .ok (.iload 4, 2) := by decide +kernel
theorem dX12_branches_93 : decode cX12_branches 93 = .ok (.i2l, 1) := by decide +kernel
theorem dX12_branches_94 : decode cX12_branches 94 = .ok (.lload 10, 2) := by decide +kernel
theorem dX12_branches_96 : decode cX12_branches 96 = .ok (.lload 8, 2) := by decide +kernel
theorem dX12_branches_98 : decode cX12_branches 98 = .ok (.lmul, 1) := by decide +kernel
theorem dX12_branches_99 : decode cX12_branches 99 = .ok (.lload 12, 2) := by decide +kernel
theorem dX12_branches_101 : decode cX12_branches 101 = .ok (.ldiv, 1) := by decide +kernel
theorem dX12_branches_102 : decode cX12_branches 102 = .ok (.lsub, 1) := by decide +kernel
theorem dX12_branches_103 : decode cX12_branches 103 = .ok (.iload 5, 2) := by decide +kernel
theorem dX12_branches_105 : decode cX12_branches 105 = .ok (.i2l, 1) := by decide +kernel
theorem dX12_branches_106 : decode cX12_branches 106 = .ok (.lload 10, 2) := by decide +kernel
theorem dX12_branches_108 : decode cX12_branches 108 = .ok (.lload 6, 2) := by decide +kernel
theorem dX12_branches_110 : decode cX12_branches 110 = .ok (.lmul, 1) := by decide +kernel
theorem dX12_branches_111 : decode cX12_branches 111 = .ok (.lload 12, 2) := by decide +kernel
theorem dX12_branches_113 : decode cX12_branches 113 = .ok (.ldiv, 1) := by decide +kernel
theorem dX12_branches_114 : decode cX12_branches 114 = .ok (.ladd, 1) := by decide +kernel
theorem dX12_branches_115 : decode cX12_branches 115 = .ok (.invokevirtual 99, 3) := by decide +kernel
theorem dX12_branches_118 : decode cX12_branches 118 = .ok (.ifCond .ne 6, 3) := by decide +kernel
theorem dX12_branches_121 : decode cX12_branches 121 = .ok (.ldc 116, 2) := by decide +kernel
theorem dX12_branches_123 : decode cX12_branches 123 = .ok (.ireturn, 1) := by decide +kernel
theorem dX12_branches_124 : decode cX12_branches 124 = .ok (.aload_n 0, 1) := by decide +kernel
theorem dX12_branches_125 : decode cX12_branches 125 = .ok (.aload_n 0, 1) := by decide +kernel
theorem dX12_branches_126 : decode cX12_branches 126 = .ok (.getfield 55, 3) := by decide +kernel
theorem dX12_branches_129 : decode cX12_branches 129 = .ok (.aload_n 0, 1) := by decide +kernel
theorem dX12_branches_130 : decode cX12_branches 130 = .ok (.getfield 58, 3) := by decide +kernel
theorem dX12_branches_133 : decode cX12_branches 133 = .ok (.iconst 1, 1) := by decide +kernel
theorem dX12_branches_134 : decode cX12_branches 134 = .ok (.invokevirtual 61, 3) := by decide +kernel
theorem dX12_branches_137 : decode cX12_branches 137 = .ok (.lload 6, 2) := by decide +kernel
theorem dX12_branches_139 : decode cX12_branches 139 = .ok (.lmul, 1) := by decide +kernel
theorem dX12_branches_140 : decode cX12_branches 140 = .ok (.aload_n 0, 1) := by decide +kernel
theorem dX12_branches_141 : decode cX12_branches 141 = .ok (.aload_n 0, 1) := by decide +kernel
theorem dX12_branches_142 : decode cX12_branches 142 = .ok (.getfield 55, 3) := by decide +kernel
theorem dX12_branches_145 : decode cX12_branches 145 = .ok (.aload_n 0, 1) := by decide +kernel
theorem dX12_branches_146 : decode cX12_branches 146 = .ok (.getfield 58, 3) := by decide +kernel
theorem dX12_branches_149 : decode cX12_branches 149 = .ok (.iconst 2, 1) := by decide +kernel
theorem dX12_branches_150 : decode cX12_branches 150 = .ok (.invokevirtual 61, 3) := by decide +kernel
theorem dX12_branches_153 : decode cX12_branches 153 = .ok (.lload 8, 2) := by decide +kernel
theorem dX12_branches_155 : decode cX12_branches 155 = .ok (.lmul, 1) := by decide +kernel
theorem dX12_branches_156 : decode cX12_branches 156 = .ok (.ladd, 1) := by decide +kernel
theorem dX12_branches_157 : decode cX12_branches 157 = .ok (.iload_n 3, 1) := by decide +kernel
theorem dX12_branches_158 : decode cX12_branches 158 = .ok (.i2l, 1) := by decide +kernel
theorem dX12_branches_159 : decode cX12_branches 159 = .ok (.lmul, 1) := by decide +kernel
theorem dX12_branches_160 : decode cX12_branches 160 = .ok (.lstore 14, 2) := by decide +kernel
theorem dX12_branches_162 : decode cX12_branches 162 = .ok (.aload_n 0, 1) := by decide +kernel
theorem dX12_branches_163 : decode cX12_branches 163 = .ok (.lload 14, 2) := by decide +kernel
theorem dX12_branches_165 : decode cX12_branches 165 = .ok (.lconst 0, 1) := by decide +kernel
theorem dX12_branches_166 : decode cX12_branches 166 = .ok (.lcmp, 1) := by decide +kernel
theorem dX12_branches_167 : decode cX12_branches 167 = .ok (.ifCond .lt 7, 3) := by decide +kernel
theorem dX12_branches_170 : decode cX12_branches 170 = .ok (.iconst 1, 1) := by decide +kernel
theorem dX12_branches_171 : decode cX12_branches 171 = .ok (.goto 4, 3) := by decide +kernel
theorem dX12_branches_174 : decode cX12_branches 174 = .ok (.iconst (-1), 1) := by decide +kernel
theorem dX12_branches_175 : decode cX12_branches 175 = .ok (.iload_n 1, 1) := by decide +kernel
theorem dX12_branches_176 : decode cX12_branches 176 = .ok (.iload_n 2, 1) := by decide +kernel
theorem dX12_branches_177 : decode cX12_branches 177 = .ok (.invokevirtual 121, 3) := by decide +kernel
theorem dX12_branches_180 : decode cX12_branches 180 = .ok (.ireturn, 1) := by decide +kernel
theorem dX12_isFrom_0 : decode cX12_isFrom 0 = .ok (.iload_n 1, 1) := by decide +kernel
theorem dX12_isFrom_1 : decode cX12_isFrom 1 = .ok (.istore_n 3, 1) := by decide +kernel
theorem dX12_isFrom_2 : decode cX12_isFrom 2 = .ok (.iload_n 3, 1) := by decide +kernel
theorem dX12_isFrom_3 : decode cX12_isFrom 3 = .ok (.ifCond .lt 18, 3) := by decide +kernel
theorem dX12_isFrom_6 : decode cX12_isFrom 6 = .ok (.iload_n 3, 1) := by decide +kernel
theorem dX12_isFrom_7 : decode cX12_isFrom 7 = .ok (.iload_n 2, 1) := by decide +kernel
theorem dX12_isFrom_8 : decode cX12_isFrom 8 = .ok (.if_icmp .eq 13, 3) := by decide +kernel
theorem dX12_isFrom_11 : decode cX12_isFrom 11 = .ok (.aload_n 0, 1) := by decide +kernel
theorem dX12_isFrom_12 : decode cX12_isFrom 12 = .ok (.iload_n 3, 1) := by decide +kernel
theorem dX12_isFrom_13 : decode cX12_isFrom 13 = .ok (.iconst 4, 1) := by decide +kernel
theorem dX12_isFrom_14 : decode cX12_isFrom 14 = .ok (.invokevirtual 92, 3) := by decide +kernel
theorem dX12_isFrom_17 : decode cX12_isFrom 17 = .ok (.istore_n 3, 1) := by decide +kernel
theorem dX12_isFrom_18 : decode cX12_isFrom 18 = .ok (.goto (-16), 3) := by decide +kernel
theorem dX12_isFrom_21 : decode cX12_isFrom 21 = .ok (.iload_n 3, 1) := by decide +kernel
theorem dX12_isFrom_22 : decode cX12_isFrom 22 = .ok (.iload_n 2, 1) := by decide +kernel
theorem dX12_isFrom_23 : decode cX12_isFrom 23 = .ok (.if_icmp .ne 7, 3) := by decide +kernel
theorem dX12_isFrom_26 : decode cX12_isFrom 26 = .ok (.iconst 1, 1) := by decide +kernel
theorem dX12_isFrom_27 : decode cX12_isFrom 27 = .ok (.goto 4, 3) := by decide +kernel
theorem dX12_isFrom_30 : decode cX12_isFrom 30 = .ok (.iconst 0, 1) := by decide +kernel
theorem dX12_isFrom_31 : decode cX12_isFrom 31 = .ok (.ireturn, 1) := by decide +kernel
theorem dX12_drops_0 : decode cX12_drops 0 = .ok (.iconst 0, 1) := by decide +kernel
theorem dX12_drops_1 : decode cX12_drops 1 = .ok (.istore_n 2, 1) := by decide +kernel
theorem dX12_drops_2 : decode cX12_drops 2 = .ok (.iconst 0, 1) := by decide +kernel
theorem dX12_drops_3 : decode cX12_drops 3 = .ok (.istore_n 3, 1) := by decide +kernel
theorem dX12_drops_4 : decode cX12_drops 4 = .ok (.iload_n 3, 1) := by decide +kernel
theorem dX12_drops_5 : decode cX12_drops 5 = .ok (.aload_n 0, 1) := by decide +kernel
theorem dX12_drops_6 : decode cX12_drops 6 = .ok (.getfield 7, 3) := by decide +kernel
theorem dX12_drops_9 : decode cX12_drops 9 = .ok (.iconst 1, 1) := by decide +kernel
theorem dX12_drops_10 : decode cX12_drops 10 = .ok (.iaload, 1) := by decide +kernel
theorem dX12_drops_11 : decode cX12_drops 11 = .ok (.if_icmp .ge 46, 3) := by decide +kernel
theorem dX12_drops_14 : decode cX12_drops 14 = .ok (.aload_n 0, 1) := by decide +kernel
theorem dX12_drops_15 : decode cX12_drops 15 = .ok (.getfield 22, 3) := by decide +kernel
theorem dX12_drops_18 : decode cX12_drops 18 = .ok (.iload_n 3, 1) := by decide +kernel
theorem dX12_drops_19 : decode cX12_drops 19 = .ok (.aload_n 0, 1) := by decide +kernel
theorem dX12_drops_20 : decode cX12_drops 20 = .ok (.iload_n 3, 1) := by decide +kernel
theorem dX12_drops_21 : decode cX12_drops 21 = .ok (.iload_n 1, 1) := by decide +kernel
theorem dX12_drops_22 : decode cX12_drops 22 = .ok (.invokevirtual 124, 3) := by decide +kernel
theorem dX12_drops_25 : decode cX12_drops 25 = .ok (.ifCond .eq 7, 3) := by decide +kernel
theorem dX12_drops_28 : decode cX12_drops 28 = .ok (.iconst (-1), 1) := by decide +kernel
theorem dX12_drops_29 : decode cX12_drops 29 = .ok (.goto 4, 3) := by decide +kernel
theorem dX12_drops_32 : decode cX12_drops 32 = .ok (.iload_n 2, 1) := by decide +kernel
theorem dX12_drops_33 : decode cX12_drops 33 = .ok (.iastore, 1) := by decide +kernel
theorem dX12_drops_34 : decode cX12_drops 34 = .ok (.iload_n 2, 1) := by decide +kernel
theorem dX12_drops_35 : decode cX12_drops 35 = .ok (.aload_n 0, 1) := by decide +kernel
theorem dX12_drops_36 : decode cX12_drops 36 = .ok (.getfield 22, 3) := by decide +kernel
theorem dX12_drops_39 : decode cX12_drops 39 = .ok (.iload_n 3, 1) := by decide +kernel
theorem dX12_drops_40 : decode cX12_drops 40 = .ok (.iaload, 1) := by decide +kernel
theorem dX12_drops_41 : decode cX12_drops 41 = .ok (.ifCond .ge 7, 3) := by decide +kernel
theorem dX12_drops_44 : decode cX12_drops 44 = .ok (.iconst 0, 1) := by decide +kernel
theorem dX12_drops_45 : decode cX12_drops 45 = .ok (.goto 4, 3) := by decide +kernel
theorem dX12_drops_48 : decode cX12_drops 48 = .ok (.iconst 1, 1) := by decide +kernel
theorem dX12_drops_49 : decode cX12_drops 49 = .ok (.iadd, 1) := by decide +kernel
theorem dX12_drops_50 : decode cX12_drops 50 = .ok (.istore_n 2, 1) := by decide +kernel
theorem dX12_drops_51 : decode cX12_drops 51 = .ok (.iinc 3 1, 3) := by decide +kernel
theorem dX12_drops_54 : decode cX12_drops 54 = .ok (.goto (-50), 3) := by decide +kernel
theorem dX12_drops_57 : decode cX12_drops 57 = .ok (.iconst 0, 1) := by decide +kernel
theorem dX12_drops_58 : decode cX12_drops 58 = .ok (.istore_n 3, 1) := by decide +kernel
theorem dX12_drops_59 : decode cX12_drops 59 = .ok (.iload_n 3, 1) := by decide +kernel
theorem dX12_drops_60 : decode cX12_drops 60 = .ok (.aload_n 0, 1) := by decide +kernel
theorem dX12_drops_61 : decode cX12_drops 61 = .ok (.getfield 7, 3) := by decide +kernel
theorem dX12_drops_64 : decode cX12_drops 64 = .ok (.iconst 1, 1) := by decide +kernel
theorem dX12_drops_65 : decode cX12_drops 65 = .ok (.iaload, 1) := by decide +kernel
theorem dX12_drops_66 : decode cX12_drops 66 = .ok (.if_icmp .ge 84, 3) := by decide +kernel
theorem dX12_drops_69 : decode cX12_drops 69 = .ok (.aload_n 0, 1) := by decide +kernel
theorem dX12_drops_70 : decode cX12_drops 70 = .ok (.iload_n 3, 1) := by decide +kernel
theorem dX12_drops_71 : decode cX12_drops 71 = .ok (.iconst 4, 1) := by decide +kernel
theorem dX12_drops_72 : decode cX12_drops 72 = .ok (.invokevirtual 92, 3) := by decide +kernel
theorem dX12_drops_75 : decode cX12_drops 75 = .ok (.istore 4, 2) := by decide +kernel
theorem dX12_drops_77 : decode cX12_drops 77 = .ok (.aload_n 0, 1) := by decide +kernel
theorem dX12_drops_78 : decode cX12_drops 78 = .ok (.iload_n 3, 1) := by decide +kernel
theorem dX12_drops_79 : decode cX12_drops 79 = .ok (.iconst 4, 1) := by decide +kernel
theorem dX12_drops_80 : decode cX12_drops 80 = .ok (.iload 4, 2) := by decide +kernel
theorem dX12_drops_82 : decode cX12_drops 82 = .ok (.ifCond .ge 7, 3) := by decide +kernel
theorem dX12_drops_85 : decode cX12_drops 85 = .ok (.iconst (-1), 1) := by decide +kernel
theorem dX12_drops_86 : decode cX12_drops 86 = .ok (.goto 10, 3) := by decide +kernel
theorem dX12_drops_89 : decode cX12_drops 89 = .ok (.aload_n 0, 1) := by decide +kernel
theorem dX12_drops_90 : decode cX12_drops 90 = .ok (.getfield 22, 3) := by decide +kernel
theorem dX12_drops_93 : decode cX12_drops 93 = .ok (.iload 4, 2) := by decide +kernel
theorem dX12_drops_95 : decode cX12_drops 95 = .ok (.iaload, 1) := by decide +kernel
theorem dX12_drops_96 : decode cX12_drops 96 = .ok (.invokevirtual 84, 3) := by decide +kernel
theorem dX12_drops_99 : decode cX12_drops 99 = .ok (.iconst 0, 1) := by decide +kernel
theorem dX12_drops_100 : decode cX12_drops 100 = .ok (.istore 5, 2) := by decide +kernel
theorem dX12_drops_102 : decode cX12_drops 102 = .ok (.iload 5, 2) := by decide +kernel
theorem dX12_drops_104 : decode cX12_drops 104 = .ok (.sipush 166, 3) := by decide +kernel
theorem dX12_drops_107 : decode cX12_drops 107 = .ok (.if_icmp .ge 37, 3) := by decide +kernel
theorem dX12_drops_110 : decode cX12_drops 110 = .ok (.aload_n 0, 1) := by decide +kernel
theorem dX12_drops_111 : decode cX12_drops 111 = .ok (.getfield 22, 3) := by decide +kernel
theorem dX12_drops_114 : decode cX12_drops 114 = .ok (.iload_n 3, 1) := by decide +kernel
theorem dX12_drops_115 : decode cX12_drops 115 = .ok (.iaload, 1) := by decide +kernel
theorem dX12_drops_116 : decode cX12_drops 116 = .ok (.ifCond .lt 28, 3) := by decide +kernel
theorem dX12_drops_119 : decode cX12_drops 119 = .ok (.aload_n 0, 1) := by decide +kernel
theorem dX12_drops_120 : decode cX12_drops 120 = .ok (.aload_n 0, 1) := by decide +kernel
theorem dX12_drops_121 : decode cX12_drops 121 = .ok (.getfield 22, 3) := by decide +kernel
theorem dX12_drops_124 : decode cX12_drops 124 = .ok (.iload_n 3, 1) := by decide +kernel
theorem dX12_drops_125 : decode cX12_drops 125 = .ok (.iaload, 1) := by decide +kernel
theorem dX12_drops_126 : decode cX12_drops 126 = .ok (.iload 5, 2) := by decide +kernel
theorem dX12_drops_128 : decode cX12_drops 128 = .ok (.aload_n 0, 1) := by decide +kernel
theorem dX12_drops_129 : decode cX12_drops 129 = .ok (.iload_n 3, 1) := by decide +kernel
theorem dX12_drops_130 : decode cX12_drops 130 = .ok (.iload 5, 2) := by decide +kernel
theorem dX12_drops_132 : decode cX12_drops 132 = .ok (.invokevirtual 92, 3) := by decide +kernel
theorem dX12_drops_135 : decode cX12_drops 135 = .ok (.invokevirtual 84, 3) := by decide +kernel
theorem dX12_drops_138 : decode cX12_drops 138 = .ok (.iinc 5 1, 3) := by decide +kernel
theorem dX12_drops_141 : decode cX12_drops 141 = .ok (.goto (-39), 3) := by decide +kernel
theorem dX12_drops_144 : decode cX12_drops 144 = .ok (.iinc 3 1, 3) := by decide +kernel
theorem dX12_drops_147 : decode cX12_drops 147 = .ok (.goto (-88), 3) := by decide +kernel
theorem dX12_drops_150 : decode cX12_drops 150 = .ok (.aload_n 0, 1) := by decide +kernel
theorem dX12_drops_151 : decode cX12_drops 151 = .ok (.getfield 7, 3) := by decide +kernel
theorem dX12_drops_154 : decode cX12_drops 154 = .ok (.iconst 1, 1) := by decide +kernel
theorem dX12_drops_155 : decode cX12_drops 155 = .ok (.iload_n 2, 1) := by decide +kernel
theorem dX12_drops_156 : decode cX12_drops 156 = .ok (.iastore, 1) := by decide +kernel
theorem dX12_drops_157 : decode cX12_drops 157 = .ok (.iload_n 2, 1) := by decide +kernel
theorem dX12_drops_158 : decode cX12_drops 158 = .ok (.ireturn, 1) := by decide +kernel
theorem dX12_adds_0 : decode cX12_adds 0 = .ok (.aload_n 0, 1) := by decide +kernel
theorem dX12_adds_1 : decode cX12_adds 1 = .ok (.getfield 7, 3) := by decide +kernel
theorem dX12_adds_4 : decode cX12_adds 4 = .ok (.iconst 0, 1) := by decide +kernel
theorem dX12_adds_5 : decode cX12_adds 5 = .ok (.iaload, 1) := by decide +kernel
theorem dX12_adds_6 : decode cX12_adds 6 = .ok (.bipush 6, 2) := by decide +kernel
theorem dX12_adds_8 : decode cX12_adds 8 = .ok (.if_icmp .ne 6, 3) := by decide +kernel
theorem dX12_adds_11 : decode cX12_adds 11 = .ok (.ldc 83, 2) := by decide +kernel
theorem dX12_adds_13 : decode cX12_adds 13 = .ok (.ireturn, 1) := by decide +kernel
theorem dX12_adds_14 : decode cX12_adds 14 = .ok (.iconst 5, 1) := by decide +kernel
theorem dX12_adds_15 : decode cX12_adds 15 = .ok (.iconst 3, 1) := by decide +kernel
theorem dX12_adds_16 : decode cX12_adds 16 = .ok (.aload_n 0, 1) := by decide +kernel
theorem dX12_adds_17 : decode cX12_adds 17 = .ok (.getfield 7, 3) := by decide +kernel
theorem dX12_adds_20 : decode cX12_adds 20 = .ok (.iconst 0, 1) := by decide +kernel
theorem dX12_adds_21 : decode cX12_adds 21 = .ok (.iaload, 1) := by decide +kernel
theorem dX12_adds_22 : decode cX12_adds 22 = .ok (.imul, 1) := by decide +kernel
theorem dX12_adds_23 : decode cX12_adds 23 = .ok (.iadd, 1) := by decide +kernel
theorem dX12_adds_24 : decode cX12_adds 24 = .ok (.istore 4, 2) := by decide +kernel
theorem dX12_adds_26 : decode cX12_adds 26 = .ok (.aload_n 0, 1) := by decide +kernel
theorem dX12_adds_27 : decode cX12_adds 27 = .ok (.getfield 7, 3) := by decide +kernel
theorem dX12_adds_30 : decode cX12_adds 30 = .ok (.iload 4, 2) := by decide +kernel
theorem dX12_adds_32 : decode cX12_adds 32 = .ok (.iload_n 1, 1) := by decide +kernel
theorem dX12_adds_33 : decode cX12_adds 33 = .ok (.iastore, 1) := by decide +kernel
theorem dX12_adds_34 : decode cX12_adds 34 = .ok (.aload_n 0, 1) := by decide +kernel
theorem dX12_adds_35 : decode cX12_adds 35 = .ok (.getfield 7, 3) := by decide +kernel
theorem dX12_adds_38 : decode cX12_adds 38 = .ok (.iload 4, 2) := by decide +kernel
theorem dX12_adds_40 : decode cX12_adds 40 = .ok (.iconst 1, 1) := by decide +kernel
theorem dX12_adds_41 : decode cX12_adds 41 = .ok (.iadd, 1) := by decide +kernel
theorem dX12_adds_42 : decode cX12_adds 42 = .ok (.iload_n 2, 1) := by decide +kernel
theorem dX12_adds_43 : decode cX12_adds 43 = .ok (.iastore, 1) := by decide +kernel
theorem dX12_adds_44 : decode cX12_adds 44 = .ok (.aload_n 0, 1) := by decide +kernel
theorem dX12_adds_45 : decode cX12_adds 45 = .ok (.getfield 7, 3) := by decide +kernel
theorem dX12_adds_48 : decode cX12_adds 48 = .ok (.iload 4, 2) := by decide +kernel
theorem dX12_adds_50 : decode cX12_adds 50 = .ok (.iconst 2, 1) := by decide +kernel
theorem dX12_adds_51 : decode cX12_adds 51 = .ok (.iadd, 1) := by decide +kernel
theorem dX12_adds_52 : decode cX12_adds 52 = .ok (.iload_n 3, 1) := by decide +kernel
theorem dX12_adds_53 : decode cX12_adds 53 = .ok (.iastore, 1) := by decide +kernel
theorem dX12_adds_54 : decode cX12_adds 54 = .ok (.aload_n 0, 1) := by decide +kernel
theorem dX12_adds_55 : decode cX12_adds 55 = .ok (.getfield 7, 3) := by decide +kernel
theorem dX12_adds_58 : decode cX12_adds 58 = .ok (.iconst 0, 1) := by decide +kernel
theorem dX12_adds_59 : decode cX12_adds 59 = .ok (.dup2, 1) := by decide +kernel
theorem dX12_adds_60 : decode cX12_adds 60 = .ok (.iaload, 1) := by decide +kernel
theorem dX12_adds_61 : decode cX12_adds 61 = .ok (.iconst 1, 1) := by decide +kernel
theorem dX12_adds_62 : decode cX12_adds 62 = .ok (.iadd, 1) := by decide +kernel
theorem dX12_adds_63 : decode cX12_adds 63 = .ok (.iastore, 1) := by decide +kernel
theorem dX12_adds_64 : decode cX12_adds 64 = .ok (.aload_n 0, 1) := by decide +kernel
theorem dX12_adds_65 : decode cX12_adds 65 = .ok (.getfield 7, 3) := by decide +kernel
theorem dX12_adds_68 : decode cX12_adds 68 = .ok (.iconst 1, 1) := by decide +kernel
theorem dX12_adds_69 : decode cX12_adds 69 = .ok (.iconst 0, 1) := by decide +kernel
theorem dX12_adds_70 : decode cX12_adds 70 = .ok (.iastore, 1) := by decide +kernel
theorem dX12_adds_71 : decode cX12_adds 71 = .ok (.aload_n 0, 1) := by decide +kernel
theorem dX12_adds_72 : decode cX12_adds 72 = .ok (.getfield 7, 3) := by decide +kernel
theorem dX12_adds_75 : decode cX12_adds 75 = .ok (.iconst 0, 1) := by decide +kernel
theorem dX12_adds_76 : decode cX12_adds 76 = .ok (.iaload, 1) := by decide +kernel
theorem dX12_adds_77 : decode cX12_adds 77 = .ok (.ireturn, 1) := by decide +kernel
theorem dX12_term_0 : decode cX12_term 0 = .ok (.aload_n 0, 1) := by decide +kernel
theorem dX12_term_1 : decode cX12_term 1 = .ok (.invokevirtual 128, 3) := by decide +kernel
theorem dX12_term_4 : decode cX12_term 4 = .ok (.iload_n 1, 1) := by decide +kernel
theorem dX12_term_5 : decode cX12_term 5 = .ok (.bipush (-5), 2) := by decide +kernel
theorem dX12_term_7 : decode cX12_term 7 = .ok (.iconst 5, 1) := by decide +kernel
theorem dX12_term_8 : decode cX12_term 8 = .ok (.invokestatic 25, 3) := by decide +kernel
theorem dX12_term_11 : decode cX12_term 11 = .ok (.ifCond .eq 36, 3) := by decide +kernel
theorem dX12_term_14 : decode cX12_term 14 = .ok (.iload_n 1, 1) := by decide +kernel
theorem dX12_term_15 : decode cX12_term 15 = .ok (.ifCond .eq 32, 3) := by decide +kernel
theorem dX12_term_18 : decode cX12_term 18 = .ok (.iload_n 2, 1) := by decide +kernel
theorem dX12_term_19 : decode cX12_term 19 = .ok (.iconst 0, 1) := by decide +kernel
theorem dX12_term_20 : decode cX12_term 20 = .ok (.iconst 3, 1) := by decide +kernel
theorem dX12_term_21 : decode cX12_term 21 = .ok (.invokestatic 25, 3) := by decide +kernel
theorem dX12_term_24 : decode cX12_term 24 = .ok (.ifCond .eq 23, 3) := by decide +kernel
theorem dX12_term_27 : decode cX12_term 27 = .ok (.iload_n 3, 1) := by decide +kernel
theorem dX12_term_28 : decode cX12_term 28 = .ok (.iconst 0, 1) := by decide +kernel
theorem dX12_term_29 : decode cX12_term 29 = .ok (.iconst 3, 1) := by decide +kernel
theorem dX12_term_30 : decode cX12_term 30 = .ok (.invokestatic 25, 3) := by decide +kernel
theorem dX12_term_33 : decode cX12_term 33 = .ok (.ifCond .eq 14, 3) := by decide +kernel
theorem dX12_term_36 : decode cX12_term 36 = .ok (.iload_n 2, 1) := by decide +kernel
theorem dX12_term_37 : decode cX12_term 37 = .ok (.iload_n 3, 1) := by decide +kernel
theorem dX12_term_38 : decode cX12_term 38 = .ok (.iadd, 1) := by decide +kernel
theorem dX12_term_39 : decode cX12_term 39 = .ok (.iconst 3, 1) := by decide +kernel
theorem dX12_term_40 : decode cX12_term 40 = .ok (.if_icmp .gt 7, 3) := by decide +kernel
theorem dX12_term_43 : decode cX12_term 43 = .ok (.iconst 1, 1) := by decide +kernel
theorem dX12_term_44 : decode cX12_term 44 = .ok (.goto 4, 3) := by decide +kernel
theorem dX12_term_47 : decode cX12_term 47 = .ok (.iconst 0, 1) := by decide +kernel
theorem dX12_term_48 : decode cX12_term 48 = .ok (.istore 4, 2) := by decide +kernel
theorem dX12_term_50 : decode cX12_term 50 = .ok (.aload_n 0, 1) := by decide +kernel
theorem dX12_term_51 : decode cX12_term 51 = .ok (.iload 4, 2) := by decide +kernel
theorem dX12_term_53 : decode cX12_term 53 = .ok (.ifCond .eq 13, 3) := by decide +kernel
theorem dX12_term_56 : decode cX12_term 56 = .ok (.aload_n 0, 1) := by decide +kernel
theorem dX12_term_57 : decode cX12_term 57 = .ok (.iload_n 1, 1) := by decide +kernel
theorem dX12_term_58 : decode cX12_term 58 = .ok (.iload_n 2, 1) := by decide +kernel
theorem dX12_term_59 : decode cX12_term 59 = .ok (.iload_n 3, 1) := by decide +kernel
theorem dX12_term_60 : decode cX12_term 60 = .ok (.invokevirtual 131, 3) := by decide +kernel
theorem dX12_term_63 : decode cX12_term 63 = .ok (.goto 5, 3) := by decide +kernel
theorem dX12_term_66 : decode cX12_term 66 = .ok (.ldc 29, 2) := by decide +kernel
theorem dX12_term_68 : decode cX12_term 68 = .ok (.invokevirtual 134, 3) := by decide +kernel
theorem dX12_term_71 : decode cX12_term 71 = .ok (.ireturn, 1) := by decide +kernel
theorem dX12_removes_0 : decode cX12_removes 0 = .ok (.iload_n 1, 1) := by decide +kernel
theorem dX12_removes_1 : decode cX12_removes 1 = .ok (.aload_n 0, 1) := by decide +kernel
theorem dX12_removes_2 : decode cX12_removes 2 = .ok (.getfield 7, 3) := by decide +kernel
theorem dX12_removes_5 : decode cX12_removes 5 = .ok (.iconst 0, 1) := by decide +kernel
theorem dX12_removes_6 : decode cX12_removes 6 = .ok (.iaload, 1) := by decide +kernel
theorem dX12_removes_7 : decode cX12_removes 7 = .ok (.if_icmp .lt 6, 3) := by decide +kernel
theorem dX12_removes_10 : decode cX12_removes 10 = .ok (.ldc 116, 2) := by decide +kernel
theorem dX12_removes_12 : decode cX12_removes 12 = .ok (.ireturn, 1) := by decide +kernel
theorem dX12_removes_13 : decode cX12_removes 13 = .ok (.aload_n 0, 1) := by decide +kernel
theorem dX12_removes_14 : decode cX12_removes 14 = .ok (.iload_n 1, 1) := by decide +kernel
theorem dX12_removes_15 : decode cX12_removes 15 = .ok (.iconst 0, 1) := by decide +kernel
theorem dX12_removes_16 : decode cX12_removes 16 = .ok (.invokevirtual 37, 3) := by decide +kernel
theorem dX12_removes_19 : decode cX12_removes 19 = .ok (.istore_n 2, 1) := by decide +kernel
theorem dX12_removes_20 : decode cX12_removes 20 = .ok (.aload_n 0, 1) := by decide +kernel
theorem dX12_removes_21 : decode cX12_removes 21 = .ok (.getfield 7, 3) := by decide +kernel
theorem dX12_removes_24 : decode cX12_removes 24 = .ok (.iconst 0, 1) := by decide +kernel
theorem dX12_removes_25 : decode cX12_removes 25 = .ok (.dup2, 1) := by decide +kernel
theorem dX12_removes_26 : decode cX12_removes 26 = .ok (.iaload, 1) := by decide +kernel
theorem dX12_removes_27 : decode cX12_removes 27 = .ok (.iconst 1, 1) := by decide +kernel
theorem dX12_removes_28 : decode cX12_removes 28 = .ok (.isub, 1) := by decide +kernel
theorem dX12_removes_29 : decode cX12_removes 29 = .ok (.iastore, 1) := by decide +kernel
theorem dX12_removes_30 : decode cX12_removes 30 = .ok (.iconst 5, 1) := by decide +kernel
theorem dX12_removes_31 : decode cX12_removes 31 = .ok (.iconst 3, 1) := by decide +kernel
theorem dX12_removes_32 : decode cX12_removes 32 = .ok (.iload_n 1, 1) := by decide +kernel
theorem dX12_removes_33 : decode cX12_removes 33 = .ok (.imul, 1) := by decide +kernel
theorem dX12_removes_34 : decode cX12_removes 34 = .ok (.iadd, 1) := by decide +kernel
theorem dX12_removes_35 : decode cX12_removes 35 = .ok (.istore_n 3, 1) := by decide +kernel
theorem dX12_removes_36 : decode cX12_removes 36 = .ok (.iload_n 3, 1) := by decide +kernel
theorem dX12_removes_37 : decode cX12_removes 37 = .ok (.iconst 5, 1) := by decide +kernel
theorem dX12_removes_38 : decode cX12_removes 38 = .ok (.iconst 3, 1) := by decide +kernel
theorem dX12_removes_39 : decode cX12_removes 39 = .ok (.aload_n 0, 1) := by decide +kernel
theorem dX12_removes_40 : decode cX12_removes 40 = .ok (.getfield 7, 3) := by decide +kernel
theorem dX12_removes_43 : decode cX12_removes 43 = .ok (.iconst 0, 1) := by decide +kernel
theorem dX12_removes_44 : decode cX12_removes 44 = .ok (.iaload, 1) := by decide +kernel
theorem dX12_removes_45 : decode cX12_removes 45 = .ok (.imul, 1) := by decide +kernel
theorem dX12_removes_46 : decode cX12_removes 46 = .ok (.iadd, 1) := by decide +kernel
theorem dX12_removes_47 : decode cX12_removes 47 = .ok (.if_icmp .ge 23, 3) := by decide +kernel
theorem dX12_removes_50 : decode cX12_removes 50 = .ok (.aload_n 0, 1) := by decide +kernel
theorem dX12_removes_51 : decode cX12_removes 51 = .ok (.getfield 7, 3) := by decide +kernel
theorem dX12_removes_54 : decode cX12_removes 54 = .ok (.iload_n 3, 1) := by decide +kernel
theorem dX12_removes_55 : decode cX12_removes 55 = .ok (.aload_n 0, 1) := by decide +kernel
theorem dX12_removes_56 : decode cX12_removes 56 = .ok (.getfield 7, 3) := by decide +kernel
theorem dX12_removes_59 : decode cX12_removes 59 = .ok (.iload_n 3, 1) := by decide +kernel
theorem dX12_removes_60 : decode cX12_removes 60 = .ok (.iconst 3, 1) := by decide +kernel
theorem dX12_removes_61 : decode cX12_removes 61 = .ok (.iadd, 1) := by decide +kernel
theorem dX12_removes_62 : decode cX12_removes 62 = .ok (.iaload, 1) := by decide +kernel
theorem dX12_removes_63 : decode cX12_removes 63 = .ok (.iastore, 1) := by decide +kernel
theorem dX12_removes_64 : decode cX12_removes 64 = .ok (.iinc 3 1, 3) := by decide +kernel
theorem dX12_removes_67 : decode cX12_removes 67 = .ok (.goto (-31), 3) := by decide +kernel
theorem dX12_removes_70 : decode cX12_removes 70 = .ok (.aload_n 0, 1) := by decide +kernel
theorem dX12_removes_71 : decode cX12_removes 71 = .ok (.getfield 7, 3) := by decide +kernel
theorem dX12_removes_74 : decode cX12_removes 74 = .ok (.iconst 1, 1) := by decide +kernel
theorem dX12_removes_75 : decode cX12_removes 75 = .ok (.iconst 0, 1) := by decide +kernel
theorem dX12_removes_76 : decode cX12_removes 76 = .ok (.iastore, 1) := by decide +kernel
theorem dX12_removes_77 : decode cX12_removes 77 = .ok (.iload_n 2, 1) := by decide +kernel
theorem dX12_removes_78 : decode cX12_removes 78 = .ok (.ireturn, 1) := by decide +kernel
theorem dX12_dropTerm_0 : decode cX12_dropTerm 0 = .ok (.aload_n 0, 1) := by decide +kernel
theorem dX12_dropTerm_1 : decode cX12_dropTerm 1 = .ok (.invokevirtual 128, 3) := by decide +kernel
theorem dX12_dropTerm_4 : decode cX12_dropTerm 4 = .ok (.aload_n 0, 1) := by decide +kernel
theorem dX12_dropTerm_5 : decode cX12_dropTerm 5 = .ok (.iload_n 1, 1) := by decide +kernel
theorem dX12_dropTerm_6 : decode cX12_dropTerm 6 = .ok (.ifCond .ge 8, 3) := by decide +kernel
theorem dX12_dropTerm_9 : decode cX12_dropTerm 9 = .ok (.ldc 29, 2) := by decide +kernel
theorem dX12_dropTerm_11 : decode cX12_dropTerm 11 = .ok (.goto 8, 3) := by decide +kernel
theorem dX12_dropTerm_14 : decode cX12_dropTerm 14 = .ok (.aload_n 0, 1) := by decide +kernel
theorem dX12_dropTerm_15 : decode cX12_dropTerm 15 = .ok (.iload_n 1, 1) := by decide +kernel
theorem dX12_dropTerm_16 : decode cX12_dropTerm 16 = .ok (.invokevirtual 137, 3) := by decide +kernel
theorem dX12_dropTerm_19 : decode cX12_dropTerm 19 = .ok (.invokevirtual 134, 3) := by decide +kernel
theorem dX12_dropTerm_22 : decode cX12_dropTerm 22 = .ok (.ireturn, 1) := by decide +kernel
theorem dX12_isSide_0 : decode cX12_isSide 0 = .ok (.iload_n 0, 1) := by decide +kernel
theorem dX12_isSide_1 : decode cX12_isSide 1 = .ok (.iconst 1, 1) := by decide +kernel
theorem dX12_isSide_2 : decode cX12_isSide 2 = .ok (.if_icmp .eq 8, 3) := by decide +kernel
theorem dX12_isSide_5 : decode cX12_isSide 5 = .ok (.iload_n 0, 1) := by decide +kernel
theorem dX12_isSide_6 : decode cX12_isSide 6 = .ok (.iconst (-1), 1) := by decide +kernel
theorem dX12_isSide_7 : decode cX12_isSide 7 = .ok (.if_icmp .ne 7, 3) := by decide +kernel
theorem dX12_isSide_10 : decode cX12_isSide 10 = .ok (.iconst 1, 1) := by decide +kernel
theorem dX12_isSide_11 : decode cX12_isSide 11 = .ok (.goto 4, 3) := by decide +kernel
theorem dX12_isSide_14 : decode cX12_isSide 14 = .ok (.iconst 0, 1) := by decide +kernel
theorem dX12_isSide_15 : decode cX12_isSide 15 = .ok (.ireturn, 1) := by decide +kernel
theorem dX12_begin_0 : decode cX12_begin 0 = .ok (.aload_n 0, 1) := by decide +kernel
theorem dX12_begin_1 : decode cX12_begin 1 = .ok (.invokevirtual 128, 3) := by decide +kernel
theorem dX12_begin_4 : decode cX12_begin 4 = .ok (.iload_n 1, 1) := by decide +kernel
theorem dX12_begin_5 : decode cX12_begin 5 = .ok (.invokestatic 140, 3) := by decide +kernel
theorem dX12_begin_8 : decode cX12_begin 8 = .ok (.ifCond .eq 17, 3) := by decide +kernel
theorem dX12_begin_11 : decode cX12_begin 11 = .ok (.iload_n 2, 1) := by decide +kernel
theorem dX12_begin_12 : decode cX12_begin 12 = .ok (.invokestatic 140, 3) := by decide +kernel
theorem dX12_begin_15 : decode cX12_begin 15 = .ok (.ifCond .eq 10, 3) := by decide +kernel
theorem dX12_begin_18 : decode cX12_begin 18 = .ok (.iload_n 3, 1) := by decide +kernel
theorem dX12_begin_19 : decode cX12_begin 19 = .ok (.invokestatic 143, 3) := by decide +kernel
theorem dX12_begin_22 : decode cX12_begin 22 = .ok (.ifCond .ne 6, 3) := by decide +kernel
theorem dX12_begin_25 : decode cX12_begin 25 = .ok (.ldc 29, 2) := by decide +kernel
theorem dX12_begin_27 : decode cX12_begin 27 = .ok (.ireturn, 1) := by decide +kernel
theorem dX12_begin_28 : decode cX12_begin 28 = .ok (.aload_n 0, 1) := by decide +kernel
theorem dX12_begin_29 : decode cX12_begin 29 = .ok (.aload_n 0, 1) := by decide +kernel
theorem dX12_begin_30 : decode cX12_begin 30 = .ok (.iload_n 1, 1) := by decide +kernel
theorem dX12_begin_31 : decode cX12_begin 31 = .ok (.i2l, 1) := by decide +kernel
theorem dX12_begin_32 : decode cX12_begin 32 = .ok (.iload_n 2, 1) := by decide +kernel
theorem dX12_begin_33 : decode cX12_begin 33 = .ok (.i2l, 1) := by decide +kernel
theorem dX12_begin_34 : decode cX12_begin 34 = .ok (.invokevirtual 99, 3) := by decide +kernel
theorem dX12_begin_37 : decode cX12_begin 37 = .ok (.ifCond .eq 13, 3) := by decide +kernel
theorem dX12_begin_40 : decode cX12_begin 40 = .ok (.aload_n 0, 1) := by decide +kernel
theorem dX12_begin_41 : decode cX12_begin 41 = .ok (.iload_n 3, 1) := by decide +kernel
theorem dX12_begin_42 : decode cX12_begin 42 = .ok (.iconst (-1), 1) := by decide +kernel
theorem dX12_begin_43 : decode cX12_begin 43 = .ok (.iconst (-1), 1) := by decide +kernel
theorem dX12_begin_44 : decode cX12_begin 44 = .ok (.invokevirtual 121, 3) := by decide +kernel
theorem dX12_begin_47 : decode cX12_begin 47 = .ok (.goto 5, 3) := by decide +kernel
theorem dX12_begin_50 : decode cX12_begin 50 = .ok (.ldc 116, 2) := by decide +kernel
theorem dX12_begin_52 : decode cX12_begin 52 = .ok (.invokevirtual 134, 3) := by decide +kernel
theorem dX12_begin_55 : decode cX12_begin 55 = .ok (.ireturn, 1) := by decide +kernel
theorem dX12_branch_0 : decode cX12_branch 0 = .ok (.aload_n 0, 1) := by decide +kernel
theorem dX12_branch_1 : decode cX12_branch 1 = .ok (.invokevirtual 128, 3) := by decide +kernel
theorem dX12_branch_4 : decode cX12_branch 4 = .ok (.aload_n 0, 1) := by decide +kernel
theorem dX12_branch_5 : decode cX12_branch 5 = .ok (.iload_n 1, 1) := by decide +kernel
theorem dX12_branch_6 : decode cX12_branch 6 = .ok (.invokevirtual 146, 3) := by decide +kernel
theorem dX12_branch_9 : decode cX12_branch 9 = .ok (.ifCond .eq 25, 3) := by decide +kernel
theorem dX12_branch_12 : decode cX12_branch 12 = .ok (.iload_n 2, 1) := by decide +kernel
theorem dX12_branch_13 : decode cX12_branch 13 = .ok (.iconst 0, 1) := by decide +kernel
theorem dX12_branch_14 : decode cX12_branch 14 = .ok (.aload_n 0, 1) := by decide +kernel
theorem dX12_branch_15 : decode cX12_branch 15 = .ok (.iload_n 1, 1) := by decide +kernel
theorem dX12_branch_16 : decode cX12_branch 16 = .ok (.invokevirtual 80, 3) := by decide +kernel
theorem dX12_branch_19 : decode cX12_branch 19 = .ok (.iconst 1, 1) := by decide +kernel
theorem dX12_branch_20 : decode cX12_branch 20 = .ok (.isub, 1) := by decide +kernel
theorem dX12_branch_21 : decode cX12_branch 21 = .ok (.invokestatic 25, 3) := by decide +kernel
theorem dX12_branch_24 : decode cX12_branch 24 = .ok (.ifCond .eq 10, 3) := by decide +kernel
theorem dX12_branch_27 : decode cX12_branch 27 = .ok (.iload_n 3, 1) := by decide +kernel
theorem dX12_branch_28 : decode cX12_branch 28 = .ok (.invokestatic 143, 3) := by decide +kernel
theorem dX12_branch_31 : decode cX12_branch 31 = .ok (.ifCond .ne 6, 3) := by decide +kernel
theorem dX12_branch_34 : decode cX12_branch 34 = .ok (.ldc 29, 2) := by decide +kernel
theorem dX12_branch_36 : decode cX12_branch 36 = .ok (.ireturn, 1) := by decide +kernel
theorem dX12_branch_37 : decode cX12_branch 37 = .ok (.aload_n 0, 1) := by decide +kernel
theorem dX12_branch_38 : decode cX12_branch 38 = .ok (.aload_n 0, 1) := by decide +kernel
theorem dX12_branch_39 : decode cX12_branch 39 = .ok (.iload_n 1, 1) := by decide +kernel
theorem dX12_branch_40 : decode cX12_branch 40 = .ok (.iload_n 2, 1) := by decide +kernel
theorem dX12_branch_41 : decode cX12_branch 41 = .ok (.iload_n 3, 1) := by decide +kernel
theorem dX12_branch_42 : decode cX12_branch 42 = .ok (.invokevirtual 149, 3) := by decide +kernel
theorem dX12_branch_45 : decode cX12_branch 45 = .ok (.invokevirtual 134, 3) := by decide +kernel
theorem dX12_branch_48 : decode cX12_branch 48 = .ok (.ireturn, 1) := by decide +kernel
theorem dX12_step_0 : decode cX12_step 0 = .ok (.aload_n 0, 1) := by decide +kernel
theorem dX12_step_1 : decode cX12_step 1 = .ok (.invokevirtual 128, 3) := by decide +kernel
theorem dX12_step_4 : decode cX12_step 4 = .ok (.aload_n 0, 1) := by decide +kernel
theorem dX12_step_5 : decode cX12_step 5 = .ok (.aload_n 0, 1) := by decide +kernel
theorem dX12_step_6 : decode cX12_step 6 = .ok (.iload_n 1, 1) := by decide +kernel
theorem dX12_step_7 : decode cX12_step 7 = .ok (.invokevirtual 146, 3) := by decide +kernel
theorem dX12_step_10 : decode cX12_step 10 = .ok (.ifCond .eq 22, 3) := by decide +kernel
theorem dX12_step_13 : decode cX12_step 13 = .ok (.iload_n 2, 1) := by decide +kernel
theorem dX12_step_14 : decode cX12_step 14 = .ok (.iconst 1, 1) := by decide +kernel
theorem dX12_step_15 : decode cX12_step 15 = .ok (.bipush 40, 2) := by decide +kernel
theorem dX12_step_17 : decode cX12_step 17 = .ok (.invokestatic 25, 3) := by decide +kernel
theorem dX12_step_20 : decode cX12_step 20 = .ok (.ifCond .eq 12, 3) := by decide +kernel
theorem dX12_step_23 : decode cX12_step 23 = .ok (.aload_n 0, 1) := by decide +kernel
theorem dX12_step_24 : decode cX12_step 24 = .ok (.iload_n 1, 1) := by decide +kernel
theorem dX12_step_25 : decode cX12_step 25 = .ok (.iload_n 2, 1) := by decide +kernel
theorem dX12_step_26 : decode cX12_step 26 = .ok (.invokevirtual 152, 3) := by decide +kernel
theorem dX12_step_29 : decode cX12_step 29 = .ok (.goto 5, 3) := by decide +kernel
theorem dX12_step_32 : decode cX12_step 32 = .ok (.ldc 29, 2) := by decide +kernel
theorem dX12_step_34 : decode cX12_step 34 = .ok (.invokevirtual 134, 3) := by decide +kernel
theorem dX12_step_37 : decode cX12_step 37 = .ok (.ireturn, 1) := by decide +kernel
theorem dX12_drop_0 : decode cX12_drop 0 = .ok (.aload_n 0, 1) := by decide +kernel
theorem dX12_drop_1 : decode cX12_drop 1 = .ok (.invokevirtual 128, 3) := by decide +kernel
theorem dX12_drop_4 : decode cX12_drop 4 = .ok (.aload_n 0, 1) := by decide +kernel
theorem dX12_drop_5 : decode cX12_drop 5 = .ok (.aload_n 0, 1) := by decide +kernel
theorem dX12_drop_6 : decode cX12_drop 6 = .ok (.iload_n 1, 1) := by decide +kernel
theorem dX12_drop_7 : decode cX12_drop 7 = .ok (.invokevirtual 146, 3) := by decide +kernel
theorem dX12_drop_10 : decode cX12_drop 10 = .ok (.ifCond .eq 11, 3) := by decide +kernel
theorem dX12_drop_13 : decode cX12_drop 13 = .ok (.aload_n 0, 1) := by decide +kernel
theorem dX12_drop_14 : decode cX12_drop 14 = .ok (.iload_n 1, 1) := by decide +kernel
theorem dX12_drop_15 : decode cX12_drop 15 = .ok (.invokevirtual 155, 3) := by decide +kernel
theorem dX12_drop_18 : decode cX12_drop 18 = .ok (.goto 5, 3) := by decide +kernel
theorem dX12_drop_21 : decode cX12_drop 21 = .ok (.ldc 29, 2) := by decide +kernel
theorem dX12_drop_23 : decode cX12_drop 23 = .ok (.invokevirtual 134, 3) := by decide +kernel
theorem dX12_drop_26 : decode cX12_drop 26 = .ok (.ireturn, 1) := by decide +kernel
theorem dX12_sets_0 : decode cX12_sets 0 = .ok (.aload_n 0, 1) := by decide +kernel
theorem dX12_sets_1 : decode cX12_sets 1 = .ok (.getfield 7, 3) := by decide +kernel
theorem dX12_sets_4 : decode cX12_sets 4 = .ok (.iconst 2, 1) := by decide +kernel
theorem dX12_sets_5 : decode cX12_sets 5 = .ok (.iload_n 1, 1) := by decide +kernel
theorem dX12_sets_6 : decode cX12_sets 6 = .ok (.iadd, 1) := by decide +kernel
theorem dX12_sets_7 : decode cX12_sets 7 = .ok (.iaload, 1) := by decide +kernel
theorem dX12_sets_8 : decode cX12_sets 8 = .ok (.istore_n 3, 1) := by decide +kernel
theorem dX12_sets_9 : decode cX12_sets 9 = .ok (.aload_n 0, 1) := by decide +kernel
theorem dX12_sets_10 : decode cX12_sets 10 = .ok (.getfield 7, 3) := by decide +kernel
theorem dX12_sets_13 : decode cX12_sets 13 = .ok (.iconst 2, 1) := by decide +kernel
theorem dX12_sets_14 : decode cX12_sets 14 = .ok (.iload_n 1, 1) := by decide +kernel
theorem dX12_sets_15 : decode cX12_sets 15 = .ok (.iadd, 1) := by decide +kernel
theorem dX12_sets_16 : decode cX12_sets 16 = .ok (.iload_n 2, 1) := by decide +kernel
theorem dX12_sets_17 : decode cX12_sets 17 = .ok (.iastore, 1) := by decide +kernel
theorem dX12_sets_18 : decode cX12_sets 18 = .ok (.iload_n 3, 1) := by decide +kernel
theorem dX12_sets_19 : decode cX12_sets 19 = .ok (.ireturn, 1) := by decide +kernel
theorem dX12_set_0 : decode cX12_set 0 = .ok (.aload_n 0, 1) := by decide +kernel
theorem dX12_set_1 : decode cX12_set 1 = .ok (.invokevirtual 128, 3) := by decide +kernel
theorem dX12_set_4 : decode cX12_set 4 = .ok (.iload_n 1, 1) := by decide +kernel
theorem dX12_set_5 : decode cX12_set 5 = .ok (.ifCond .ne 13, 3) := by decide +kernel
theorem dX12_set_8 : decode cX12_set 8 = .ok (.iload_n 2, 1) := by decide +kernel
theorem dX12_set_9 : decode cX12_set 9 = .ok (.iconst 1, 1) := by decide +kernel
theorem dX12_set_10 : decode cX12_set 10 = .ok (.bipush 64, 2) := by decide +kernel
theorem dX12_set_12 : decode cX12_set 12 = .ok (.invokestatic 25, 3) := by decide +kernel
theorem dX12_set_15 : decode cX12_set 15 = .ok (.ifCond .ne 34, 3) := by decide +kernel
theorem dX12_set_18 : decode cX12_set 18 = .ok (.iload_n 1, 1) := by decide +kernel
theorem dX12_set_19 : decode cX12_set 19 = .ok (.iconst 1, 1) := by decide +kernel
theorem dX12_set_20 : decode cX12_set 20 = .ok (.if_icmp .ne 14, 3) := by decide +kernel
theorem dX12_set_23 : decode cX12_set 23 = .ok (.iload_n 2, 1) := by decide +kernel
theorem dX12_set_24 : decode cX12_set 24 = .ok (.iconst 1, 1) := by decide +kernel
theorem dX12_set_25 : decode cX12_set 25 = .ok (.sipush 128, 3) := by decide +kernel
theorem dX12_set_28 : decode cX12_set 28 = .ok (.invokestatic 25, 3) := by decide +kernel
theorem dX12_set_31 : decode cX12_set 31 = .ok (.ifCond .ne 18, 3) := by decide +kernel
theorem dX12_set_34 : decode cX12_set 34 = .ok (.iload_n 1, 1) := by decide +kernel
theorem dX12_set_35 : decode cX12_set 35 = .ok (.iconst 2, 1) := by decide +kernel
theorem dX12_set_36 : decode cX12_set 36 = .ok (.if_icmp .ne 17, 3) := by decide +kernel
theorem dX12_set_39 : decode cX12_set 39 = .ok (.iload_n 2, 1) := by decide +kernel
theorem dX12_set_40 : decode cX12_set 40 = .ok (.iconst 2, 1) := by decide +kernel
theorem dX12_set_41 : decode cX12_set 41 = .ok (.bipush 20, 2) := by decide +kernel
theorem dX12_set_43 : decode cX12_set 43 = .ok (.invokestatic 25, 3) := by decide +kernel
theorem dX12_set_46 : decode cX12_set 46 = .ok (.ifCond .eq 7, 3) := by decide +kernel
theorem dX12_set_49 : decode cX12_set 49 = .ok (.iconst 1, 1) := by decide +kernel
theorem dX12_set_50 : decode cX12_set 50 = .ok (.goto 4, 3) := by decide +kernel
theorem dX12_set_53 : decode cX12_set 53 = .ok (.iconst 0, 1) := by decide +kernel
theorem dX12_set_54 : decode cX12_set 54 = .ok (.istore_n 3, 1) := by decide +kernel
theorem dX12_set_55 : decode cX12_set 55 = .ok (.aload_n 0, 1) := by decide +kernel
theorem dX12_set_56 : decode cX12_set 56 = .ok (.iload_n 3, 1) := by decide +kernel
theorem dX12_set_57 : decode cX12_set 57 = .ok (.ifCond .eq 12, 3) := by decide +kernel
theorem dX12_set_60 : decode cX12_set 60 = .ok (.aload_n 0, 1) := by decide +kernel
theorem dX12_set_61 : decode cX12_set 61 = .ok (.iload_n 1, 1) := by decide +kernel
theorem dX12_set_62 : decode cX12_set 62 = .ok (.iload_n 2, 1) := by decide +kernel
theorem dX12_set_63 : decode cX12_set 63 = .ok (.invokevirtual 158, 3) := by decide +kernel
theorem dX12_set_66 : decode cX12_set 66 = .ok (.goto 5, 3) := by decide +kernel
theorem dX12_set_69 : decode cX12_set 69 = .ok (.ldc 29, 2) := by decide +kernel
theorem dX12_set_71 : decode cX12_set 71 = .ok (.invokevirtual 134, 3) := by decide +kernel
theorem dX12_set_74 : decode cX12_set 74 = .ok (.ireturn, 1) := by decide +kernel
theorem dX12_termOf_0 : decode cX12_termOf 0 = .ok (.iload_n 1, 1) := by decide +kernel
theorem dX12_termOf_1 : decode cX12_termOf 1 = .ok (.ifCond .lt 12, 3) := by decide +kernel
theorem dX12_termOf_4 : decode cX12_termOf 4 = .ok (.iload_n 2, 1) := by decide +kernel
theorem dX12_termOf_5 : decode cX12_termOf 5 = .ok (.iconst 0, 1) := by decide +kernel
theorem dX12_termOf_6 : decode cX12_termOf 6 = .ok (.iconst 2, 1) := by decide +kernel
theorem dX12_termOf_7 : decode cX12_termOf 7 = .ok (.invokestatic 25, 3) := by decide +kernel
theorem dX12_termOf_10 : decode cX12_termOf 10 = .ok (.ifCond .ne 6, 3) := by decide +kernel
theorem dX12_termOf_13 : decode cX12_termOf 13 = .ok (.ldc 29, 2) := by decide +kernel
theorem dX12_termOf_15 : decode cX12_termOf 15 = .ok (.ireturn, 1) := by decide +kernel
theorem dX12_termOf_16 : decode cX12_termOf 16 = .ok (.iload_n 1, 1) := by decide +kernel
theorem dX12_termOf_17 : decode cX12_termOf 17 = .ok (.aload_n 0, 1) := by decide +kernel
theorem dX12_termOf_18 : decode cX12_termOf 18 = .ok (.getfield 7, 3) := by decide +kernel
theorem dX12_termOf_21 : decode cX12_termOf 21 = .ok (.iconst 0, 1) := by decide +kernel
theorem dX12_termOf_22 : decode cX12_termOf 22 = .ok (.iaload, 1) := by decide +kernel
theorem dX12_termOf_23 : decode cX12_termOf 23 = .ok (.if_icmp .ge 12, 3) := by decide +kernel
theorem dX12_termOf_26 : decode cX12_termOf 26 = .ok (.aload_n 0, 1) := by decide +kernel
theorem dX12_termOf_27 : decode cX12_termOf 27 = .ok (.iload_n 1, 1) := by decide +kernel
theorem dX12_termOf_28 : decode cX12_termOf 28 = .ok (.iload_n 2, 1) := by decide +kernel
theorem dX12_termOf_29 : decode cX12_termOf 29 = .ok (.invokevirtual 37, 3) := by decide +kernel
theorem dX12_termOf_32 : decode cX12_termOf 32 = .ok (.goto 5, 3) := by decide +kernel
theorem dX12_termOf_35 : decode cX12_termOf 35 = .ok (.ldc 161, 2) := by decide +kernel
theorem dX12_termOf_37 : decode cX12_termOf 37 = .ok (.ireturn, 1) := by decide +kernel
theorem dX12_value_0 : decode cX12_value 0 = .ok (.iload_n 1, 1) := by decide +kernel
theorem dX12_value_1 : decode cX12_value 1 = .ok (.invokestatic 140, 3) := by decide +kernel
theorem dX12_value_4 : decode cX12_value 4 = .ok (.ifCond .eq 33, 3) := by decide +kernel
theorem dX12_value_7 : decode cX12_value 7 = .ok (.iload_n 2, 1) := by decide +kernel
theorem dX12_value_8 : decode cX12_value 8 = .ok (.invokestatic 140, 3) := by decide +kernel
theorem dX12_value_11 : decode cX12_value 11 = .ok (.ifCond .eq 26, 3) := by decide +kernel
theorem dX12_value_14 : decode cX12_value 14 = .ok (.iload_n 3, 1) := by decide +kernel
theorem dX12_value_15 : decode cX12_value 15 = .ok (.iconst 0, 1) := by decide +kernel
theorem dX12_value_16 : decode cX12_value 16 = .ok (.iconst 2, 1) := by decide +kernel
theorem dX12_value_17 : decode cX12_value 17 = .ok (.invokestatic 25, 3) := by decide +kernel
theorem dX12_value_20 : decode cX12_value 20 = .ok (.ifCond .eq 17, 3) := by decide +kernel
theorem dX12_value_23 : decode cX12_value 23 = .ok (.aload_n 0, 1) := by decide +kernel
theorem dX12_value_24 : decode cX12_value 24 = .ok (.iload_n 1, 1) := by decide +kernel
theorem dX12_value_25 : decode cX12_value 25 = .ok (.iload_n 2, 1) := by decide +kernel
theorem dX12_value_26 : decode cX12_value 26 = .ok (.iload_n 3, 1) := by decide +kernel
theorem dX12_value_27 : decode cX12_value 27 = .ok (.invokevirtual 61, 3) := by decide +kernel
theorem dX12_value_30 : decode cX12_value 30 = .ok (.ldc2_w 162, 3) := by decide +kernel
theorem dX12_value_33 : decode cX12_value 33 = .ok (.ladd, 1) := by decide +kernel
theorem dX12_value_34 : decode cX12_value 34 = .ok (.goto 6, 3) := by decide +kernel
theorem dX12_value_37 : decode cX12_value 37 = .ok (.ldc2_w 164, 3) := by decide +kernel
theorem dX12_value_40 : decode cX12_value 40 = .ok (.lreturn, 1) := by decide +kernel
theorem dX12_corrected_0 : decode cX12_corrected 0 = .ok (.iload_n 1, 1) := by decide +kernel
theorem dX12_corrected_1 : decode cX12_corrected 1 = .ok (.invokestatic 140, 3) := by decide +kernel
theorem dX12_corrected_4 : decode cX12_corrected 4 = .ok (.ifCond .eq 19, 3) := by decide +kernel
theorem dX12_corrected_7 : decode cX12_corrected 7 = .ok (.iload_n 2, 1) := by decide +kernel
theorem dX12_corrected_8 : decode cX12_corrected 8 = .ok (.invokestatic 140, 3) := by decide +kernel
theorem dX12_corrected_11 : decode cX12_corrected 11 = .ok (.ifCond .eq 12, 3) := by decide +kernel
theorem dX12_corrected_14 : decode cX12_corrected 14 = .ok (.iload_n 3, 1) := by decide +kernel
theorem dX12_corrected_15 : decode cX12_corrected 15 = .ok (.iconst 0, 1) := by decide +kernel
theorem dX12_corrected_16 : decode cX12_corrected 16 = .ok (.iconst 2, 1) := by decide +kernel
theorem dX12_corrected_17 : decode cX12_corrected 17 = .ok (.invokestatic 25, 3) := by decide +kernel
theorem dX12_corrected_20 : decode cX12_corrected 20 = .ok (.ifCond .ne 6, 3) := by decide +kernel
theorem dX12_corrected_23 : decode cX12_corrected 23 = .ok (.ldc 29, 2) := by decide +kernel
theorem dX12_corrected_25 : decode cX12_corrected 25 = .ok (.ireturn, 1) := by decide +kernel
theorem dX12_corrected_26 : decode cX12_corrected 26 = .ok (.aload_n 0, 1) := by decide +kernel
theorem dX12_corrected_27 : decode cX12_corrected 27 = .ok (.iload_n 1, 1) := by decide +kernel
theorem dX12_corrected_28 : decode cX12_corrected 28 = .ok (.i2l, 1) := by decide +kernel
theorem dX12_corrected_29 : decode cX12_corrected 29 = .ok (.iload_n 2, 1) := by decide +kernel
theorem dX12_corrected_30 : decode cX12_corrected 30 = .ok (.i2l, 1) := by decide +kernel
theorem dX12_corrected_31 : decode cX12_corrected 31 = .ok (.invokevirtual 99, 3) := by decide +kernel
theorem dX12_corrected_34 : decode cX12_corrected 34 = .ok (.ifCond .ne 8, 3) := by decide +kernel
theorem dX12_corrected_37 : decode cX12_corrected 37 = .ok (.ldc 161, 2) := by decide +kernel
theorem dX12_corrected_39 : decode cX12_corrected 39 = .ok (.goto 30, 3) := by decide +kernel
theorem dX12_corrected_42 : decode cX12_corrected 42 = .ok (.iload_n 3, 1) := by decide +kernel
theorem dX12_corrected_43 : decode cX12_corrected 43 = .ok (.ifCond .ne 10, 3) := by decide +kernel
theorem dX12_corrected_46 : decode cX12_corrected 46 = .ok (.aload_n 0, 1) := by decide +kernel
theorem dX12_corrected_47 : decode cX12_corrected 47 = .ok (.getfield 55, 3) := by decide +kernel
theorem dX12_corrected_50 : decode cX12_corrected 50 = .ok (.goto 19, 3) := by decide +kernel
theorem dX12_corrected_53 : decode cX12_corrected 53 = .ok (.iload_n 3, 1) := by decide +kernel
theorem dX12_corrected_54 : decode cX12_corrected 54 = .ok (.iconst 1, 1) := by decide +kernel
theorem dX12_corrected_55 : decode cX12_corrected 55 = .ok (.if_icmp .ne 10, 3) := by decide +kernel
theorem dX12_corrected_58 : decode cX12_corrected 58 = .ok (.aload_n 0, 1) := by decide +kernel
theorem dX12_corrected_59 : decode cX12_corrected 59 = .ok (.getfield 58, 3) := by decide +kernel
theorem dX12_corrected_62 : decode cX12_corrected 62 = .ok (.goto 7, 3) := by decide +kernel
theorem dX12_corrected_65 : decode cX12_corrected 65 = .ok (.aload_n 0, 1) := by decide +kernel
theorem dX12_corrected_66 : decode cX12_corrected 66 = .ok (.getfield 65, 3) := by decide +kernel
theorem dX12_corrected_69 : decode cX12_corrected 69 = .ok (.ireturn, 1) := by decide +kernel
theorem dX12_ofKind_0 : decode cX12_ofKind 0 = .ok (.iconst 0, 1) := by decide +kernel
theorem dX12_ofKind_1 : decode cX12_ofKind 1 = .ok (.istore_n 3, 1) := by decide +kernel
theorem dX12_ofKind_2 : decode cX12_ofKind 2 = .ok (.iconst 0, 1) := by decide +kernel
theorem dX12_ofKind_3 : decode cX12_ofKind 3 = .ok (.istore 4, 2) := by decide +kernel
theorem dX12_ofKind_5 : decode cX12_ofKind 5 = .ok (.iload 4, 2) := by decide +kernel
theorem dX12_ofKind_7 : decode cX12_ofKind 7 = .ok (.aload_n 0, 1) := by decide +kernel
theorem dX12_ofKind_8 : decode cX12_ofKind 8 = .ok (.iload_n 1, 1) := by decide +kernel
theorem dX12_ofKind_9 : decode cX12_ofKind 9 = .ok (.invokevirtual 80, 3) := by decide +kernel
theorem dX12_ofKind_12 : decode cX12_ofKind 12 = .ok (.if_icmp .ge 29, 3) := by decide +kernel
theorem dX12_ofKind_15 : decode cX12_ofKind 15 = .ok (.iload_n 3, 1) := by decide +kernel
theorem dX12_ofKind_16 : decode cX12_ofKind 16 = .ok (.aload_n 0, 1) := by decide +kernel
theorem dX12_ofKind_17 : decode cX12_ofKind 17 = .ok (.iload_n 1, 1) := by decide +kernel
theorem dX12_ofKind_18 : decode cX12_ofKind 18 = .ok (.iload 4, 2) := by decide +kernel
theorem dX12_ofKind_20 : decode cX12_ofKind 20 = .ok (.iconst 3, 1) := by decide +kernel
theorem dX12_ofKind_21 : decode cX12_ofKind 21 = .ok (.invokevirtual 103, 3) := by decide +kernel
theorem dX12_ofKind_24 : decode cX12_ofKind 24 = .ok (.iload_n 2, 1) := by decide +kernel
theorem dX12_ofKind_25 : decode cX12_ofKind 25 = .ok (.if_icmp .ne 7, 3) := by decide +kernel
theorem dX12_ofKind_28 : decode cX12_ofKind 28 = .ok (.iconst 1, 1) := by decide +kernel
theorem dX12_ofKind_29 : decode cX12_ofKind 29 = .ok (.goto 4, 3) := by decide +kernel
theorem dX12_ofKind_32 : decode cX12_ofKind 32 = .ok (.iconst 0, 1) := by decide +kernel
theorem dX12_ofKind_33 : decode cX12_ofKind 33 = .ok (.iadd, 1) := by decide +kernel
theorem dX12_ofKind_34 : decode cX12_ofKind 34 = .ok (.istore_n 3, 1) := by decide +kernel
theorem dX12_ofKind_35 : decode cX12_ofKind 35 = .ok (.iinc 4 1, 3) := by decide +kernel
theorem dX12_ofKind_38 : decode cX12_ofKind 38 = .ok (.goto (-33), 3) := by decide +kernel
theorem dX12_ofKind_41 : decode cX12_ofKind 41 = .ok (.iload_n 3, 1) := by decide +kernel
theorem dX12_ofKind_42 : decode cX12_ofKind 42 = .ok (.ireturn, 1) := by decide +kernel
theorem dX12_begunFrom_0 : decode cX12_begunFrom 0 = .ok (.iconst 0, 1) := by decide +kernel
theorem dX12_begunFrom_1 : decode cX12_begunFrom 1 = .ok (.istore_n 2, 1) := by decide +kernel
theorem dX12_begunFrom_2 : decode cX12_begunFrom 2 = .ok (.iconst 0, 1) := by decide +kernel
theorem dX12_begunFrom_3 : decode cX12_begunFrom 3 = .ok (.istore_n 3, 1) := by decide +kernel
theorem dX12_begunFrom_4 : decode cX12_begunFrom 4 = .ok (.iload_n 3, 1) := by decide +kernel
theorem dX12_begunFrom_5 : decode cX12_begunFrom 5 = .ok (.aload_n 0, 1) := by decide +kernel
theorem dX12_begunFrom_6 : decode cX12_begunFrom 6 = .ok (.getfield 7, 3) := by decide +kernel
theorem dX12_begunFrom_9 : decode cX12_begunFrom 9 = .ok (.iconst 1, 1) := by decide +kernel
theorem dX12_begunFrom_10 : decode cX12_begunFrom 10 = .ok (.iaload, 1) := by decide +kernel
theorem dX12_begunFrom_11 : decode cX12_begunFrom 11 = .ok (.if_icmp .ge 31, 3) := by decide +kernel
theorem dX12_begunFrom_14 : decode cX12_begunFrom 14 = .ok (.iload_n 2, 1) := by decide +kernel
theorem dX12_begunFrom_15 : decode cX12_begunFrom 15 = .ok (.iload_n 3, 1) := by decide +kernel
theorem dX12_begunFrom_16 : decode cX12_begunFrom 16 = .ok (.iload_n 1, 1) := by decide +kernel
theorem dX12_begunFrom_17 : decode cX12_begunFrom 17 = .ok (.if_icmp .eq 16, 3) := by decide +kernel
theorem dX12_begunFrom_20 : decode cX12_begunFrom 20 = .ok (.aload_n 0, 1) := by decide +kernel
theorem dX12_begunFrom_21 : decode cX12_begunFrom 21 = .ok (.iload_n 3, 1) := by decide +kernel
theorem dX12_begunFrom_22 : decode cX12_begunFrom 22 = .ok (.iload_n 1, 1) := by decide +kernel
theorem dX12_begunFrom_23 : decode cX12_begunFrom 23 = .ok (.invokevirtual 124, 3) := by decide +kernel
theorem dX12_begunFrom_26 : decode cX12_begunFrom 26 = .ok (.ifCond .eq 7, 3) := by decide +kernel
theorem dX12_begunFrom_29 : decode cX12_begunFrom 29 = .ok (.iconst 1, 1) := by decide +kernel
theorem dX12_begunFrom_30 : decode cX12_begunFrom 30 = .ok (.goto 4, 3) := by decide +kernel
theorem dX12_begunFrom_33 : decode cX12_begunFrom 33 = .ok (.iconst 0, 1) := by decide +kernel
theorem dX12_begunFrom_34 : decode cX12_begunFrom 34 = .ok (.iadd, 1) := by decide +kernel
theorem dX12_begunFrom_35 : decode cX12_begunFrom 35 = .ok (.istore_n 2, 1) := by decide +kernel
theorem dX12_begunFrom_36 : decode cX12_begunFrom 36 = .ok (.iinc 3 1, 3) := by decide +kernel
theorem dX12_begunFrom_39 : decode cX12_begunFrom 39 = .ok (.goto (-35), 3) := by decide +kernel
theorem dX12_begunFrom_42 : decode cX12_begunFrom 42 = .ok (.iload_n 2, 1) := by decide +kernel
theorem dX12_begunFrom_43 : decode cX12_begunFrom 43 = .ok (.ireturn, 1) := by decide +kernel
theorem dX12_walkOf_0 : decode cX12_walkOf 0 = .ok (.aload_n 0, 1) := by decide +kernel
theorem dX12_walkOf_1 : decode cX12_walkOf 1 = .ok (.iload_n 1, 1) := by decide +kernel
theorem dX12_walkOf_2 : decode cX12_walkOf 2 = .ok (.invokevirtual 146, 3) := by decide +kernel
theorem dX12_walkOf_5 : decode cX12_walkOf 5 = .ok (.ifCond .eq 13, 3) := by decide +kernel
theorem dX12_walkOf_8 : decode cX12_walkOf 8 = .ok (.iload_n 2, 1) := by decide +kernel
theorem dX12_walkOf_9 : decode cX12_walkOf 9 = .ok (.iconst 0, 1) := by decide +kernel
theorem dX12_walkOf_10 : decode cX12_walkOf 10 = .ok (.bipush 8, 2) := by decide +kernel
theorem dX12_walkOf_12 : decode cX12_walkOf 12 = .ok (.invokestatic 25, 3) := by decide +kernel
theorem dX12_walkOf_15 : decode cX12_walkOf 15 = .ok (.ifCond .ne 6, 3) := by decide +kernel
theorem dX12_walkOf_18 : decode cX12_walkOf 18 = .ok (.ldc 29, 2) := by decide +kernel
theorem dX12_walkOf_20 : decode cX12_walkOf 20 = .ok (.ireturn, 1) := by decide +kernel
theorem dX12_walkOf_21 : decode cX12_walkOf 21 = .ok (.iload_n 2, 1) := by decide +kernel
theorem dX12_walkOf_22 : decode cX12_walkOf 22 = .ok (.tableswitch 91 0 7 #[46, 46, 46, 53, 59, 59, 68, 68], 46) := by decide +kernel
theorem dX12_walkOf_68 : decode cX12_walkOf 68 = .ok (.aload_n 0, 1) := by decide +kernel
theorem dX12_walkOf_69 : decode cX12_walkOf 69 = .ok (.iload_n 1, 1) := by decide +kernel
theorem dX12_walkOf_70 : decode cX12_walkOf 70 = .ok (.iload_n 2, 1) := by decide +kernel
theorem dX12_walkOf_71 : decode cX12_walkOf 71 = .ok (.invokevirtual 92, 3) := by decide +kernel
theorem dX12_walkOf_74 : decode cX12_walkOf 74 = .ok (.ireturn, 1) := by decide +kernel
theorem dX12_walkOf_75 : decode cX12_walkOf 75 = .ok (.aload_n 0, 1) := by decide +kernel
theorem dX12_walkOf_76 : decode cX12_walkOf 76 = .ok (.iload_n 1, 1) := by decide +kernel
theorem dX12_walkOf_77 : decode cX12_walkOf 77 = .ok (.invokevirtual 113, 3) := by decide +kernel
theorem dX12_walkOf_80 : decode cX12_walkOf 80 = .ok (.ireturn, 1) := by decide +kernel
theorem dX12_walkOf_81 : decode cX12_walkOf 81 = .ok (.aload_n 0, 1) := by decide +kernel
theorem dX12_walkOf_82 : decode cX12_walkOf 82 = .ok (.iload_n 1, 1) := by decide +kernel
theorem dX12_walkOf_83 : decode cX12_walkOf 83 = .ok (.iload_n 2, 1) := by decide +kernel
theorem dX12_walkOf_84 : decode cX12_walkOf 84 = .ok (.iconst 3, 1) := by decide +kernel
theorem dX12_walkOf_85 : decode cX12_walkOf 85 = .ok (.isub, 1) := by decide +kernel
theorem dX12_walkOf_86 : decode cX12_walkOf 86 = .ok (.invokevirtual 166, 3) := by decide +kernel
theorem dX12_walkOf_89 : decode cX12_walkOf 89 = .ok (.ireturn, 1) := by decide +kernel
theorem dX12_walkOf_90 : decode cX12_walkOf 90 = .ok (.aload_n 0, 1) := by decide +kernel
theorem dX12_walkOf_91 : decode cX12_walkOf 91 = .ok (.iload_n 1, 1) := by decide +kernel
theorem dX12_walkOf_92 : decode cX12_walkOf 92 = .ok (.iconst 4, 1) := by decide +kernel
theorem dX12_walkOf_93 : decode cX12_walkOf 93 = .ok (.invokevirtual 92, 3) := by decide +kernel
theorem dX12_walkOf_96 : decode cX12_walkOf 96 = .ok (.ifCond .ge 8, 3) := by decide +kernel
theorem dX12_walkOf_99 : decode cX12_walkOf 99 = .ok (.ldc 161, 2) := by decide +kernel
theorem dX12_walkOf_101 : decode cX12_walkOf 101 = .ok (.goto 11, 3) := by decide +kernel
theorem dX12_walkOf_104 : decode cX12_walkOf 104 = .ok (.aload_n 0, 1) := by decide +kernel
theorem dX12_walkOf_105 : decode cX12_walkOf 105 = .ok (.iload_n 1, 1) := by decide +kernel
theorem dX12_walkOf_106 : decode cX12_walkOf 106 = .ok (.iload_n 2, 1) := by decide +kernel
theorem dX12_walkOf_107 : decode cX12_walkOf 107 = .ok (.iconst 2, 1) := by decide +kernel
theorem dX12_walkOf_108 : decode cX12_walkOf 108 = .ok (.isub, 1) := by decide +kernel
theorem dX12_walkOf_109 : decode cX12_walkOf 109 = .ok (.invokevirtual 92, 3) := by decide +kernel
theorem dX12_walkOf_112 : decode cX12_walkOf 112 = .ok (.ireturn, 1) := by decide +kernel
theorem dX12_walkOf_113 : decode cX12_walkOf 113 = .ok (.aload_n 0, 1) := by decide +kernel
theorem dX12_walkOf_114 : decode cX12_walkOf 114 = .ok (.iload_n 1, 1) := by decide +kernel
theorem dX12_walkOf_115 : decode cX12_walkOf 115 = .ok (.invokevirtual 169, 3) := by decide +kernel
theorem dX12_walkOf_118 : decode cX12_walkOf 118 = .ok (.ireturn, 1) := by decide +kernel
theorem dX12_placeOf_0 : decode cX12_placeOf 0 = .ok (.aload_n 0, 1) := by decide +kernel
theorem dX12_placeOf_1 : decode cX12_placeOf 1 = .ok (.iload_n 1, 1) := by decide +kernel
theorem dX12_placeOf_2 : decode cX12_placeOf 2 = .ok (.invokevirtual 146, 3) := by decide +kernel
theorem dX12_placeOf_5 : decode cX12_placeOf 5 = .ok (.ifCond .eq 16, 3) := by decide +kernel
theorem dX12_placeOf_8 : decode cX12_placeOf 8 = .ok (.iload_n 2, 1) := by decide +kernel
theorem dX12_placeOf_9 : decode cX12_placeOf 9 = .ok (.ifCond .lt 12, 3) := by decide +kernel
theorem dX12_placeOf_12 : decode cX12_placeOf 12 = .ok (.iload_n 3, 1) := by decide +kernel
theorem dX12_placeOf_13 : decode cX12_placeOf 13 = .ok (.iconst 0, 1) := by decide +kernel
theorem dX12_placeOf_14 : decode cX12_placeOf 14 = .ok (.iconst 3, 1) := by decide +kernel
theorem dX12_placeOf_15 : decode cX12_placeOf 15 = .ok (.invokestatic 25, 3) := by decide +kernel
theorem dX12_placeOf_18 : decode cX12_placeOf 18 = .ok (.ifCond .ne 6, 3) := by decide +kernel
theorem dX12_placeOf_21 : decode cX12_placeOf 21 = .ok (.ldc 29, 2) := by decide +kernel
theorem dX12_placeOf_23 : decode cX12_placeOf 23 = .ok (.ireturn, 1) := by decide +kernel
theorem dX12_placeOf_24 : decode cX12_placeOf 24 = .ok (.iload_n 2, 1) := by decide +kernel
theorem dX12_placeOf_25 : decode cX12_placeOf 25 = .ok (.aload_n 0, 1) := by decide +kernel
theorem dX12_placeOf_26 : decode cX12_placeOf 26 = .ok (.iload_n 1, 1) := by decide +kernel
theorem dX12_placeOf_27 : decode cX12_placeOf 27 = .ok (.invokevirtual 80, 3) := by decide +kernel
theorem dX12_placeOf_30 : decode cX12_placeOf 30 = .ok (.if_icmp .ge 13, 3) := by decide +kernel
theorem dX12_placeOf_33 : decode cX12_placeOf 33 = .ok (.aload_n 0, 1) := by decide +kernel
theorem dX12_placeOf_34 : decode cX12_placeOf 34 = .ok (.iload_n 1, 1) := by decide +kernel
theorem dX12_placeOf_35 : decode cX12_placeOf 35 = .ok (.iload_n 2, 1) := by decide +kernel
theorem dX12_placeOf_36 : decode cX12_placeOf 36 = .ok (.iload_n 3, 1) := by decide +kernel
theorem dX12_placeOf_37 : decode cX12_placeOf 37 = .ok (.invokevirtual 103, 3) := by decide +kernel
theorem dX12_placeOf_40 : decode cX12_placeOf 40 = .ok (.goto 5, 3) := by decide +kernel
theorem dX12_placeOf_43 : decode cX12_placeOf 43 = .ok (.ldc 161, 2) := by decide +kernel
theorem dX12_placeOf_45 : decode cX12_placeOf 45 = .ok (.ireturn, 1) := by decide +kernel
theorem dX12_ofWalks_0 : decode cX12_ofWalks 0 = .ok (.iconst 0, 1) := by decide +kernel
theorem dX12_ofWalks_1 : decode cX12_ofWalks 1 = .ok (.istore_n 2, 1) := by decide +kernel
theorem dX12_ofWalks_2 : decode cX12_ofWalks 2 = .ok (.iconst 0, 1) := by decide +kernel
theorem dX12_ofWalks_3 : decode cX12_ofWalks 3 = .ok (.istore_n 3, 1) := by decide +kernel
theorem dX12_ofWalks_4 : decode cX12_ofWalks 4 = .ok (.iload_n 3, 1) := by decide +kernel
theorem dX12_ofWalks_5 : decode cX12_ofWalks 5 = .ok (.aload_n 0, 1) := by decide +kernel
theorem dX12_ofWalks_6 : decode cX12_ofWalks 6 = .ok (.getfield 7, 3) := by decide +kernel
theorem dX12_ofWalks_9 : decode cX12_ofWalks 9 = .ok (.iconst 1, 1) := by decide +kernel
theorem dX12_ofWalks_10 : decode cX12_ofWalks 10 = .ok (.iaload, 1) := by decide +kernel
theorem dX12_ofWalks_11 : decode cX12_ofWalks 11 = .ok (.if_icmp .ge 30, 3) := by decide +kernel
theorem dX12_ofWalks_14 : decode cX12_ofWalks 14 = .ok (.iload_n 2, 1) := by decide +kernel
theorem dX12_ofWalks_15 : decode cX12_ofWalks 15 = .ok (.iload_n 1, 1) := by decide +kernel
theorem dX12_ofWalks_16 : decode cX12_ofWalks 16 = .ok (.ifCond .ne 11, 3) := by decide +kernel
theorem dX12_ofWalks_19 : decode cX12_ofWalks 19 = .ok (.aload_n 0, 1) := by decide +kernel
theorem dX12_ofWalks_20 : decode cX12_ofWalks 20 = .ok (.iload_n 3, 1) := by decide +kernel
theorem dX12_ofWalks_21 : decode cX12_ofWalks 21 = .ok (.invokevirtual 80, 3) := by decide +kernel
theorem dX12_ofWalks_24 : decode cX12_ofWalks 24 = .ok (.goto 9, 3) := by decide +kernel
theorem dX12_ofWalks_27 : decode cX12_ofWalks 27 = .ok (.aload_n 0, 1) := by decide +kernel
theorem dX12_ofWalks_28 : decode cX12_ofWalks 28 = .ok (.iload_n 3, 1) := by decide +kernel
theorem dX12_ofWalks_29 : decode cX12_ofWalks 29 = .ok (.iload_n 1, 1) := by decide +kernel
theorem dX12_ofWalks_30 : decode cX12_ofWalks 30 = .ok (.invokevirtual 166, 3) := by decide +kernel
theorem dX12_ofWalks_33 : decode cX12_ofWalks 33 = .ok (.iadd, 1) := by decide +kernel
theorem dX12_ofWalks_34 : decode cX12_ofWalks 34 = .ok (.istore_n 2, 1) := by decide +kernel
theorem dX12_ofWalks_35 : decode cX12_ofWalks 35 = .ok (.iinc 3 1, 3) := by decide +kernel
theorem dX12_ofWalks_38 : decode cX12_ofWalks 38 = .ok (.goto (-34), 3) := by decide +kernel
theorem dX12_ofWalks_41 : decode cX12_ofWalks 41 = .ok (.iload_n 2, 1) := by decide +kernel
theorem dX12_ofWalks_42 : decode cX12_ofWalks 42 = .ok (.ireturn, 1) := by decide +kernel
theorem dX12_count_0 : decode cX12_count 0 = .ok (.iload_n 1, 1) := by decide +kernel
theorem dX12_count_1 : decode cX12_count 1 = .ok (.tableswitch 68 0 6 #[43, 43, 50, 50, 50, 58, 63], 43) := by decide +kernel
theorem dX12_count_44 : decode cX12_count 44 = .ok (.aload_n 0, 1) := by decide +kernel
theorem dX12_count_45 : decode cX12_count 45 = .ok (.getfield 7, 3) := by decide +kernel
theorem dX12_count_48 : decode cX12_count 48 = .ok (.iload_n 1, 1) := by decide +kernel
theorem dX12_count_49 : decode cX12_count 49 = .ok (.iaload, 1) := by decide +kernel
theorem dX12_count_50 : decode cX12_count 50 = .ok (.ireturn, 1) := by decide +kernel
theorem dX12_count_51 : decode cX12_count 51 = .ok (.aload_n 0, 1) := by decide +kernel
theorem dX12_count_52 : decode cX12_count 52 = .ok (.iload_n 1, 1) := by decide +kernel
theorem dX12_count_53 : decode cX12_count 53 = .ok (.iconst 2, 1) := by decide +kernel
theorem dX12_count_54 : decode cX12_count 54 = .ok (.isub, 1) := by decide +kernel
theorem dX12_count_55 : decode cX12_count 55 = .ok (.invokevirtual 172, 3) := by decide +kernel
theorem dX12_count_58 : decode cX12_count 58 = .ok (.ireturn, 1) := by decide +kernel
theorem dX12_count_59 : decode cX12_count 59 = .ok (.aload_n 0, 1) := by decide +kernel
theorem dX12_count_60 : decode cX12_count 60 = .ok (.getfield 33, 3) := by decide +kernel
theorem dX12_count_63 : decode cX12_count 63 = .ok (.ireturn, 1) := by decide +kernel
theorem dX12_count_64 : decode cX12_count 64 = .ok (.aload_n 0, 1) := by decide +kernel
theorem dX12_count_65 : decode cX12_count 65 = .ok (.getfield 175, 3) := by decide +kernel
theorem dX12_count_68 : decode cX12_count 68 = .ok (.ireturn, 1) := by decide +kernel
theorem dX12_count_69 : decode cX12_count 69 = .ok (.iload_n 1, 1) := by decide +kernel
theorem dX12_count_70 : decode cX12_count 70 = .ok (.bipush 10, 2) := by decide +kernel
theorem dX12_count_72 : decode cX12_count 72 = .ok (.bipush 12, 2) := by decide +kernel
theorem dX12_count_74 : decode cX12_count 74 = .ok (.invokestatic 25, 3) := by decide +kernel
theorem dX12_count_77 : decode cX12_count 77 = .ok (.ifCond .eq 17, 3) := by decide +kernel
theorem dX12_count_80 : decode cX12_count 80 = .ok (.aload_n 0, 1) := by decide +kernel
theorem dX12_count_81 : decode cX12_count 81 = .ok (.getfield 7, 3) := by decide +kernel
theorem dX12_count_84 : decode cX12_count 84 = .ok (.iconst 2, 1) := by decide +kernel
theorem dX12_count_85 : decode cX12_count 85 = .ok (.iload_n 1, 1) := by decide +kernel
theorem dX12_count_86 : decode cX12_count 86 = .ok (.iadd, 1) := by decide +kernel
theorem dX12_count_87 : decode cX12_count 87 = .ok (.bipush 10, 2) := by decide +kernel
theorem dX12_count_89 : decode cX12_count 89 = .ok (.isub, 1) := by decide +kernel
theorem dX12_count_90 : decode cX12_count 90 = .ok (.iaload, 1) := by decide +kernel
theorem dX12_count_91 : decode cX12_count 91 = .ok (.goto 5, 3) := by decide +kernel
theorem dX12_count_94 : decode cX12_count 94 = .ok (.ldc 29, 2) := by decide +kernel
theorem dX12_count_96 : decode cX12_count 96 = .ok (.ireturn, 1) := by decide +kernel
theorem dX12_meets_0 : decode cX12_meets 0 = .ok (.iload_n 1, 1) := by decide +kernel
theorem dX12_meets_1 : decode cX12_meets 1 = .ok (.invokestatic 140, 3) := by decide +kernel
theorem dX12_meets_4 : decode cX12_meets 4 = .ok (.ifCond .ne 6, 3) := by decide +kernel
theorem dX12_meets_7 : decode cX12_meets 7 = .ok (.ldc 29, 2) := by decide +kernel
theorem dX12_meets_9 : decode cX12_meets 9 = .ok (.ireturn, 1) := by decide +kernel
theorem dX12_meets_10 : decode cX12_meets 10 = .ok (.iconst 0, 1) := by decide +kernel
theorem dX12_meets_11 : decode cX12_meets 11 = .ok (.istore_n 2, 1) := by decide +kernel
theorem dX12_meets_12 : decode cX12_meets 12 = .ok (.iconst 0, 1) := by decide +kernel
theorem dX12_meets_13 : decode cX12_meets 13 = .ok (.istore_n 3, 1) := by decide +kernel
theorem dX12_meets_14 : decode cX12_meets 14 = .ok (.sipush (-1024), 3) := by decide +kernel
theorem dX12_meets_17 : decode cX12_meets 17 = .ok (.istore 4, 2) := by decide +kernel
theorem dX12_meets_19 : decode cX12_meets 19 = .ok (.iload 4, 2) := by decide +kernel
theorem dX12_meets_21 : decode cX12_meets 21 = .ok (.sipush 1024, 3) := by decide +kernel
theorem dX12_meets_24 : decode cX12_meets 24 = .ok (.if_icmp .gt 71, 3) := by decide +kernel
theorem dX12_meets_27 : decode cX12_meets 27 = .ok (.aload_n 0, 1) := by decide +kernel
theorem dX12_meets_28 : decode cX12_meets 28 = .ok (.iload_n 1, 1) := by decide +kernel
theorem dX12_meets_29 : decode cX12_meets 29 = .ok (.iload 4, 2) := by decide +kernel
theorem dX12_meets_31 : decode cX12_meets 31 = .ok (.iconst 0, 1) := by decide +kernel
theorem dX12_meets_32 : decode cX12_meets 32 = .ok (.invokevirtual 61, 3) := by decide +kernel
theorem dX12_meets_35 : decode cX12_meets 35 = .ok (.lstore 5, 2) := by decide +kernel
theorem dX12_meets_37 : decode cX12_meets 37 = .ok (.lload 5, 2) := by decide +kernel
theorem dX12_meets_39 : decode cX12_meets 39 = .ok (.lconst 0, 1) := by decide +kernel
theorem dX12_meets_40 : decode cX12_meets 40 = .ok (.lcmp, 1) := by decide +kernel
theorem dX12_meets_41 : decode cX12_meets 41 = .ok (.ifCond .le 7, 3) := by decide +kernel
theorem dX12_meets_44 : decode cX12_meets 44 = .ok (.iconst 1, 1) := by decide +kernel
theorem dX12_meets_45 : decode cX12_meets 45 = .ok (.goto 15, 3) := by decide +kernel
theorem dX12_meets_48 : decode cX12_meets 48 = .ok (.lload 5, 2) := by decide +kernel
theorem dX12_meets_50 : decode cX12_meets 50 = .ok (.lconst 0, 1) := by decide +kernel
theorem dX12_meets_51 : decode cX12_meets 51 = .ok (.lcmp, 1) := by decide +kernel
theorem dX12_meets_52 : decode cX12_meets 52 = .ok (.ifCond .ge 7, 3) := by decide +kernel
theorem dX12_meets_55 : decode cX12_meets 55 = .ok (.iconst (-1), 1) := by decide +kernel
theorem dX12_meets_56 : decode cX12_meets 56 = .ok (.goto 4, 3) := by decide +kernel
theorem dX12_meets_59 : decode cX12_meets 59 = .ok (.iconst 0, 1) := by decide +kernel
theorem dX12_meets_60 : decode cX12_meets 60 = .ok (.istore 7, 2) := by decide +kernel
theorem dX12_meets_62 : decode cX12_meets 62 = .ok (.iload_n 2, 1) := by decide +kernel
theorem dX12_meets_63 : decode cX12_meets 63 = .ok (.iload 7, 2) := by decide +kernel
theorem dX12_meets_65 : decode cX12_meets 65 = .ok (.iload_n 3, 1) := by decide +kernel
theorem dX12_meets_66 : decode cX12_meets 66 = .ok (.imul, 1) := by decide +kernel
theorem dX12_meets_67 : decode cX12_meets 67 = .ok (.ifCond .ge 7, 3) := by decide +kernel
theorem dX12_meets_70 : decode cX12_meets 70 = .ok (.iconst 1, 1) := by decide +kernel
theorem dX12_meets_71 : decode cX12_meets 71 = .ok (.goto 4, 3) := by decide +kernel
theorem dX12_meets_74 : decode cX12_meets 74 = .ok (.iconst 0, 1) := by decide +kernel
theorem dX12_meets_75 : decode cX12_meets 75 = .ok (.iadd, 1) := by decide +kernel
theorem dX12_meets_76 : decode cX12_meets 76 = .ok (.istore_n 2, 1) := by decide +kernel
theorem dX12_meets_77 : decode cX12_meets 77 = .ok (.iload 7, 2) := by decide +kernel
theorem dX12_meets_79 : decode cX12_meets 79 = .ok (.ifCond .ne 7, 3) := by decide +kernel
theorem dX12_meets_82 : decode cX12_meets 82 = .ok (.iload_n 3, 1) := by decide +kernel
theorem dX12_meets_83 : decode cX12_meets 83 = .ok (.goto 5, 3) := by decide +kernel
theorem dX12_meets_86 : decode cX12_meets 86 = .ok (.iload 7, 2) := by decide +kernel
theorem dX12_meets_88 : decode cX12_meets 88 = .ok (.istore_n 3, 1) := by decide +kernel
theorem dX12_meets_89 : decode cX12_meets 89 = .ok (.iinc 4 1, 3) := by decide +kernel
theorem dX12_meets_92 : decode cX12_meets 92 = .ok (.goto (-73), 3) := by decide +kernel
theorem dX12_meets_95 : decode cX12_meets 95 = .ok (.iload_n 2, 1) := by decide +kernel
theorem dX12_meets_96 : decode cX12_meets 96 = .ok (.ireturn, 1) := by decide +kernel
theorem dX12_square_0 : decode cX12_square 0 = .ok (.iload_n 0, 1) := by decide +kernel
theorem dX12_square_1 : decode cX12_square 1 = .ok (.iload_n 0, 1) := by decide +kernel
theorem dX12_square_2 : decode cX12_square 2 = .ok (.imul, 1) := by decide +kernel
theorem dX12_square_3 : decode cX12_square 3 = .ok (.ireturn, 1) := by decide +kernel
theorem dX12_lengthBits_0 : decode cX12_lengthBits 0 = .ok (.aload_n 0, 1) := by decide +kernel
theorem dX12_lengthBits_1 : decode cX12_lengthBits 1 = .ok (.iload_n 1, 1) := by decide +kernel
theorem dX12_lengthBits_2 : decode cX12_lengthBits 2 = .ok (.invokevirtual 146, 3) := by decide +kernel
theorem dX12_lengthBits_5 : decode cX12_lengthBits 5 = .ok (.ifCond .ne 6, 3) := by decide +kernel
theorem dX12_lengthBits_8 : decode cX12_lengthBits 8 = .ok (.ldc 29, 2) := by decide +kernel
theorem dX12_lengthBits_10 : decode cX12_lengthBits 10 = .ok (.ireturn, 1) := by decide +kernel
theorem dX12_lengthBits_11 : decode cX12_lengthBits 11 = .ok (.iconst 0, 1) := by decide +kernel
theorem dX12_lengthBits_12 : decode cX12_lengthBits 12 = .ok (.istore_n 2, 1) := by decide +kernel
theorem dX12_lengthBits_13 : decode cX12_lengthBits 13 = .ok (.iconst 1, 1) := by decide +kernel
theorem dX12_lengthBits_14 : decode cX12_lengthBits 14 = .ok (.istore_n 3, 1) := by decide +kernel
theorem dX12_lengthBits_15 : decode cX12_lengthBits 15 = .ok (.iload_n 3, 1) := by decide +kernel
theorem dX12_lengthBits_16 : decode cX12_lengthBits 16 = .ok (.aload_n 0, 1) := by decide +kernel
theorem dX12_lengthBits_17 : decode cX12_lengthBits 17 = .ok (.iload_n 1, 1) := by decide +kernel
theorem dX12_lengthBits_18 : decode cX12_lengthBits 18 = .ok (.invokevirtual 80, 3) := by decide +kernel
theorem dX12_lengthBits_21 : decode cX12_lengthBits 21 = .ok (.if_icmp .ge 66, 3) := by decide +kernel
theorem dX12_lengthBits_24 : decode cX12_lengthBits 24 = .ok (.aload_n 0, 1) := by decide +kernel
theorem dX12_lengthBits_25 : decode cX12_lengthBits 25 = .ok (.iload_n 1, 1) := by decide +kernel
theorem dX12_lengthBits_26 : decode cX12_lengthBits 26 = .ok (.iload_n 3, 1) := by decide +kernel
theorem dX12_lengthBits_27 : decode cX12_lengthBits 27 = .ok (.iconst 0, 1) := by decide +kernel
theorem dX12_lengthBits_28 : decode cX12_lengthBits 28 = .ok (.invokevirtual 103, 3) := by decide +kernel
theorem dX12_lengthBits_31 : decode cX12_lengthBits 31 = .ok (.aload_n 0, 1) := by decide +kernel
theorem dX12_lengthBits_32 : decode cX12_lengthBits 32 = .ok (.iload_n 1, 1) := by decide +kernel
theorem dX12_lengthBits_33 : decode cX12_lengthBits 33 = .ok (.iload_n 3, 1) := by decide +kernel
theorem dX12_lengthBits_34 : decode cX12_lengthBits 34 = .ok (.iconst 1, 1) := by decide +kernel
theorem dX12_lengthBits_35 : decode cX12_lengthBits 35 = .ok (.isub, 1) := by decide +kernel
theorem dX12_lengthBits_36 : decode cX12_lengthBits 36 = .ok (.iconst 0, 1) := by decide +kernel
theorem dX12_lengthBits_37 : decode cX12_lengthBits 37 = .ok (.invokevirtual 103, 3) := by decide +kernel
theorem dX12_lengthBits_40 : decode cX12_lengthBits 40 = .ok (.isub, 1) := by decide +kernel
theorem dX12_lengthBits_41 : decode cX12_lengthBits 41 = .ok (.istore 4, 2) := by decide +kernel
theorem dX12_lengthBits_43 : decode cX12_lengthBits 43 = .ok (.aload_n 0, 1) := by decide +kernel
theorem dX12_lengthBits_44 : decode cX12_lengthBits 44 = .ok (.iload_n 1, 1) := by decide +kernel
theorem dX12_lengthBits_45 : decode cX12_lengthBits 45 = .ok (.iload_n 3, 1) := by decide +kernel
theorem dX12_lengthBits_46 : decode cX12_lengthBits 46 = .ok (.iconst 1, 1) := by decide +kernel
theorem dX12_lengthBits_47 : decode cX12_lengthBits 47 = .ok (.invokevirtual 103, 3) := by decide +kernel
theorem dX12_lengthBits_50 : decode cX12_lengthBits 50 = .ok (.aload_n 0, 1) := by decide +kernel
theorem dX12_lengthBits_51 : decode cX12_lengthBits 51 = .ok (.iload_n 1, 1) := by decide +kernel
theorem dX12_lengthBits_52 : decode cX12_lengthBits 52 = .ok (.iload_n 3, 1) := by decide +kernel
theorem dX12_lengthBits_53 : decode cX12_lengthBits 53 = .ok (.iconst 1, 1) := by decide +kernel
theorem dX12_lengthBits_54 : decode cX12_lengthBits 54 = .ok (.isub, 1) := by decide +kernel
theorem dX12_lengthBits_55 : decode cX12_lengthBits 55 = .ok (.iconst 1, 1) := by decide +kernel
theorem dX12_lengthBits_56 : decode cX12_lengthBits 56 = .ok (.invokevirtual 103, 3) := by decide +kernel
theorem dX12_lengthBits_59 : decode cX12_lengthBits 59 = .ok (.isub, 1) := by decide +kernel
theorem dX12_lengthBits_60 : decode cX12_lengthBits 60 = .ok (.istore 5, 2) := by decide +kernel
theorem dX12_lengthBits_62 : decode cX12_lengthBits 62 = .ok (.iload_n 2, 1) := by decide +kernel
theorem dX12_lengthBits_63 : decode cX12_lengthBits 63 = .ok (.iload 4, 2) := by decide +kernel
theorem dX12_lengthBits_65 : decode cX12_lengthBits 65 = .ok (.invokestatic 178, 3) := by decide +kernel
theorem dX12_lengthBits_68 : decode cX12_lengthBits 68 = .ok (.iload 5, 2) := by decide +kernel
theorem dX12_lengthBits_70 : decode cX12_lengthBits 70 = .ok (.invokestatic 178, 3) := by decide +kernel
theorem dX12_lengthBits_73 : decode cX12_lengthBits 73 = .ok (.iadd, 1) := by decide +kernel
theorem dX12_lengthBits_74 : decode cX12_lengthBits 74 = .ok (.i2l, 1) := by decide +kernel
theorem dX12_lengthBits_75 : decode cX12_lengthBits 75 = .ok (.invokestatic 95, 3) := by decide +kernel
theorem dX12_lengthBits_78 : decode cX12_lengthBits 78 = .ok (.l2i, 1) := by decide +kernel
theorem dX12_lengthBits_79 : decode cX12_lengthBits 79 = .ok (.iadd, 1) := by decide +kernel
theorem dX12_lengthBits_80 : decode cX12_lengthBits 80 = .ok (.istore_n 2, 1) := by decide +kernel
theorem dX12_lengthBits_81 : decode cX12_lengthBits 81 = .ok (.iinc 3 1, 3) := by decide +kernel
theorem dX12_lengthBits_84 : decode cX12_lengthBits 84 = .ok (.goto (-69), 3) := by decide +kernel
theorem dX12_lengthBits_87 : decode cX12_lengthBits 87 = .ok (.iload_n 2, 1) := by decide +kernel
theorem dX12_lengthBits_88 : decode cX12_lengthBits 88 = .ok (.i2f, 1) := by decide +kernel
theorem dX12_lengthBits_89 : decode cX12_lengthBits 89 = .ok (.fstore_n 3, 1) := by decide +kernel
theorem dX12_lengthBits_90 : decode cX12_lengthBits 90 = .ok (.fload_n 3, 1) := by decide +kernel
theorem dX12_lengthBits_91 : decode cX12_lengthBits 91 = .ok (.ldc 181, 2) := by decide +kernel
theorem dX12_lengthBits_93 : decode cX12_lengthBits 93 = .ok (.fdiv, 1) := by decide +kernel
theorem dX12_lengthBits_94 : decode cX12_lengthBits 94 = .ok (.invokestatic 182, 3) := by decide +kernel
theorem dX12_lengthBits_97 : decode cX12_lengthBits 97 = .ok (.ireturn, 1) := by decide +kernel
theorem dX12_nearest_0 : decode cX12_nearest 0 = .ok (.aload_n 0, 1) := by decide +kernel
theorem dX12_nearest_1 : decode cX12_nearest 1 = .ok (.iload_n 1, 1) := by decide +kernel
theorem dX12_nearest_2 : decode cX12_nearest 2 = .ok (.invokevirtual 146, 3) := by decide +kernel
theorem dX12_nearest_5 : decode cX12_nearest 5 = .ok (.ifCond .eq 17, 3) := by decide +kernel
theorem dX12_nearest_8 : decode cX12_nearest 8 = .ok (.iload_n 2, 1) := by decide +kernel
theorem dX12_nearest_9 : decode cX12_nearest 9 = .ok (.invokestatic 140, 3) := by decide +kernel
theorem dX12_nearest_12 : decode cX12_nearest 12 = .ok (.ifCond .eq 10, 3) := by decide +kernel
theorem dX12_nearest_15 : decode cX12_nearest 15 = .ok (.iload_n 3, 1) := by decide +kernel
theorem dX12_nearest_16 : decode cX12_nearest 16 = .ok (.invokestatic 140, 3) := by decide +kernel
theorem dX12_nearest_19 : decode cX12_nearest 19 = .ok (.ifCond .ne 6, 3) := by decide +kernel
theorem dX12_nearest_22 : decode cX12_nearest 22 = .ok (.ldc 29, 2) := by decide +kernel
theorem dX12_nearest_24 : decode cX12_nearest 24 = .ok (.ireturn, 1) := by decide +kernel
theorem dX12_nearest_25 : decode cX12_nearest 25 = .ok (.iconst 0, 1) := by decide +kernel
theorem dX12_nearest_26 : decode cX12_nearest 26 = .ok (.istore 4, 2) := by decide +kernel
theorem dX12_nearest_28 : decode cX12_nearest 28 = .ok (.iconst (-1), 1) := by decide +kernel
theorem dX12_nearest_29 : decode cX12_nearest 29 = .ok (.istore 5, 2) := by decide +kernel
theorem dX12_nearest_31 : decode cX12_nearest 31 = .ok (.iconst 0, 1) := by decide +kernel
theorem dX12_nearest_32 : decode cX12_nearest 32 = .ok (.istore 6, 2) := by decide +kernel
theorem dX12_nearest_34 : decode cX12_nearest 34 = .ok (.iload 6, 2) := by decide +kernel
theorem dX12_nearest_36 : decode cX12_nearest 36 = .ok (.aload_n 0, 1) := by decide +kernel
theorem dX12_nearest_37 : decode cX12_nearest 37 = .ok (.iload_n 1, 1) := by decide +kernel
theorem dX12_nearest_38 : decode cX12_nearest 38 = .ok (.invokevirtual 80, 3) := by decide +kernel
theorem dX12_nearest_41 : decode cX12_nearest 41 = .ok (.if_icmp .ge 80, 3) := by decide +kernel
theorem dX12_nearest_44 : decode cX12_nearest 44 = .ok (.aload_n 0, 1) := by decide +kernel
theorem dX12_nearest_45 : decode cX12_nearest 45 = .ok (.iload_n 1, 1) := by decide +kernel
theorem dX12_nearest_46 : decode cX12_nearest 46 = .ok (.iload 6, 2) := by decide +kernel
theorem dX12_nearest_48 : decode cX12_nearest 48 = .ok (.iconst 0, 1) := by decide +kernel
theorem dX12_nearest_49 : decode cX12_nearest 49 = .ok (.invokevirtual 103, 3) := by decide +kernel
theorem dX12_nearest_52 : decode cX12_nearest 52 = .ok (.iload_n 2, 1) := by decide +kernel
theorem dX12_nearest_53 : decode cX12_nearest 53 = .ok (.isub, 1) := by decide +kernel
theorem dX12_nearest_54 : decode cX12_nearest 54 = .ok (.invokestatic 178, 3) := by decide +kernel
theorem dX12_nearest_57 : decode cX12_nearest 57 = .ok (.aload_n 0, 1) := by decide +kernel
theorem dX12_nearest_58 : decode cX12_nearest 58 = .ok (.iload_n 1, 1) := by decide +kernel
theorem dX12_nearest_59 : decode cX12_nearest 59 = .ok (.iload 6, 2) := by decide +kernel
theorem dX12_nearest_61 : decode cX12_nearest 61 = .ok (.iconst 1, 1) := by decide +kernel
theorem dX12_nearest_62 : decode cX12_nearest 62 = .ok (.invokevirtual 103, 3) := by decide +kernel
theorem dX12_nearest_65 : decode cX12_nearest 65 = .ok (.iload_n 3, 1) := by decide +kernel
theorem dX12_nearest_66 : decode cX12_nearest 66 = .ok (.isub, 1) := by decide +kernel
theorem dX12_nearest_67 : decode cX12_nearest 67 = .ok (.invokestatic 178, 3) := by decide +kernel
theorem dX12_nearest_70 : decode cX12_nearest 70 = .ok (.iadd, 1) := by decide +kernel
theorem dX12_nearest_71 : decode cX12_nearest 71 = .ok (.istore 7, 2) := by decide +kernel
theorem dX12_nearest_73 : decode cX12_nearest 73 = .ok (.iload 5, 2) := by decide +kernel
theorem dX12_nearest_75 : decode cX12_nearest 75 = .ok (.ifCond .lt 10, 3) := by decide +kernel
theorem dX12_nearest_78 : decode cX12_nearest 78 = .ok (.iload 7, 2) := by decide +kernel
theorem dX12_nearest_80 : decode cX12_nearest 80 = .ok (.iload 5, 2) := by decide +kernel
theorem dX12_nearest_82 : decode cX12_nearest 82 = .ok (.if_icmp .ge 8, 3) := by decide +kernel
theorem dX12_nearest_85 : decode cX12_nearest 85 = .ok (.iload 6, 2) := by decide +kernel
theorem dX12_nearest_87 : decode cX12_nearest 87 = .ok (.goto 5, 3) := by decide +kernel
theorem dX12_nearest_90 : decode cX12_nearest 90 = .ok (.iload 4, 2) := by decide +kernel
theorem dX12_nearest_92 : decode cX12_nearest 92 = .ok (.istore 4, 2) := by decide +kernel
theorem dX12_nearest_94 : decode cX12_nearest 94 = .ok (.iload 5, 2) := by decide +kernel
theorem dX12_nearest_96 : decode cX12_nearest 96 = .ok (.ifCond .lt 10, 3) := by decide +kernel
theorem dX12_nearest_99 : decode cX12_nearest 99 = .ok (.iload 7, 2) := by decide +kernel
theorem dX12_nearest_101 : decode cX12_nearest 101 = .ok (.iload 5, 2) := by decide +kernel
theorem dX12_nearest_103 : decode cX12_nearest 103 = .ok (.if_icmp .ge 8, 3) := by decide +kernel
theorem dX12_nearest_106 : decode cX12_nearest 106 = .ok (.iload 7, 2) := by decide +kernel
theorem dX12_nearest_108 : decode cX12_nearest 108 = .ok (.goto 5, 3) := by decide +kernel
theorem dX12_nearest_111 : decode cX12_nearest 111 = .ok (.iload 5, 2) := by decide +kernel
theorem dX12_nearest_113 : decode cX12_nearest 113 = .ok (.istore 5, 2) := by decide +kernel
theorem dX12_nearest_115 : decode cX12_nearest 115 = .ok (.iinc 6 1, 3) := by decide +kernel
theorem dX12_nearest_118 : decode cX12_nearest 118 = .ok (.goto (-84), 3) := by decide +kernel
theorem dX12_nearest_121 : decode cX12_nearest 121 = .ok (.iload 4, 2) := by decide +kernel
theorem dX12_nearest_123 : decode cX12_nearest 123 = .ok (.ireturn, 1) := by decide +kernel
theorem dX12_undo_0 : decode cX12_undo 0 = .ok (.aload_n 0, 1) := by decide +kernel
theorem dX12_undo_1 : decode cX12_undo 1 = .ok (.getfield 33, 3) := by decide +kernel
theorem dX12_undo_4 : decode cX12_undo 4 = .ok (.ifCond .ne 6, 3) := by decide +kernel
theorem dX12_undo_7 : decode cX12_undo 7 = .ok (.ldc 116, 2) := by decide +kernel
theorem dX12_undo_9 : decode cX12_undo 9 = .ok (.ireturn, 1) := by decide +kernel
theorem dX12_undo_10 : decode cX12_undo 10 = .ok (.aload_n 0, 1) := by decide +kernel
theorem dX12_undo_11 : decode cX12_undo 11 = .ok (.dup, 1) := by decide +kernel
theorem dX12_undo_12 : decode cX12_undo 12 = .ok (.getfield 33, 3) := by decide +kernel
theorem dX12_undo_15 : decode cX12_undo 15 = .ok (.iconst 1, 1) := by decide +kernel
theorem dX12_undo_16 : decode cX12_undo 16 = .ok (.isub, 1) := by decide +kernel
theorem dX12_undo_17 : decode cX12_undo 17 = .ok (.putfield 33, 3) := by decide +kernel
theorem dX12_undo_20 : decode cX12_undo 20 = .ok (.iconst 0, 1) := by decide +kernel
theorem dX12_undo_21 : decode cX12_undo 21 = .ok (.istore_n 1, 1) := by decide +kernel
theorem dX12_undo_22 : decode cX12_undo 22 = .ok (.iload_n 1, 1) := by decide +kernel
theorem dX12_undo_23 : decode cX12_undo 23 = .ok (.sipush 853, 3) := by decide +kernel
theorem dX12_undo_26 : decode cX12_undo 26 = .ok (.if_icmp .ge 30, 3) := by decide +kernel
theorem dX12_undo_29 : decode cX12_undo 29 = .ok (.aload_n 0, 1) := by decide +kernel
theorem dX12_undo_30 : decode cX12_undo 30 = .ok (.getfield 7, 3) := by decide +kernel
theorem dX12_undo_33 : decode cX12_undo 33 = .ok (.iload_n 1, 1) := by decide +kernel
theorem dX12_undo_34 : decode cX12_undo 34 = .ok (.aload_n 0, 1) := by decide +kernel
theorem dX12_undo_35 : decode cX12_undo 35 = .ok (.getfield 16, 3) := by decide +kernel
theorem dX12_undo_38 : decode cX12_undo 38 = .ok (.sipush 853, 3) := by decide +kernel
theorem dX12_undo_41 : decode cX12_undo 41 = .ok (.aload_n 0, 1) := by decide +kernel
theorem dX12_undo_42 : decode cX12_undo 42 = .ok (.getfield 33, 3) := by decide +kernel
theorem dX12_undo_45 : decode cX12_undo 45 = .ok (.imul, 1) := by decide +kernel
theorem dX12_undo_46 : decode cX12_undo 46 = .ok (.iload_n 1, 1) := by decide +kernel
theorem dX12_undo_47 : decode cX12_undo 47 = .ok (.iadd, 1) := by decide +kernel
theorem dX12_undo_48 : decode cX12_undo 48 = .ok (.iaload, 1) := by decide +kernel
theorem dX12_undo_49 : decode cX12_undo 49 = .ok (.iastore, 1) := by decide +kernel
theorem dX12_undo_50 : decode cX12_undo 50 = .ok (.iinc 1 1, 3) := by decide +kernel
theorem dX12_undo_53 : decode cX12_undo 53 = .ok (.goto (-31), 3) := by decide +kernel
theorem dX12_undo_56 : decode cX12_undo 56 = .ok (.aload_n 0, 1) := by decide +kernel
theorem dX12_undo_57 : decode cX12_undo 57 = .ok (.getfield 33, 3) := by decide +kernel
theorem dX12_undo_60 : decode cX12_undo 60 = .ok (.ireturn, 1) := by decide +kernel
theorem dX12_type_0 : decode cX12_type 0 = .ok (.iload_n 1, 1) := by decide +kernel
theorem dX12_type_1 : decode cX12_type 1 = .ok (.bipush 32, 2) := by decide +kernel
theorem dX12_type_3 : decode cX12_type 3 = .ok (.bipush 126, 2) := by decide +kernel
theorem dX12_type_5 : decode cX12_type 5 = .ok (.invokestatic 25, 3) := by decide +kernel
theorem dX12_type_8 : decode cX12_type 8 = .ok (.ifCond .ne 6, 3) := by decide +kernel
theorem dX12_type_11 : decode cX12_type 11 = .ok (.ldc 29, 2) := by decide +kernel
theorem dX12_type_13 : decode cX12_type 13 = .ok (.ireturn, 1) := by decide +kernel
theorem dX12_type_14 : decode cX12_type 14 = .ok (.aload_n 0, 1) := by decide +kernel
theorem dX12_type_15 : decode cX12_type 15 = .ok (.getfield 175, 3) := by decide +kernel
theorem dX12_type_18 : decode cX12_type 18 = .ok (.bipush 60, 2) := by decide +kernel
theorem dX12_type_20 : decode cX12_type 20 = .ok (.if_icmp .ne 6, 3) := by decide +kernel
theorem dX12_type_23 : decode cX12_type 23 = .ok (.ldc 83, 2) := by decide +kernel
theorem dX12_type_25 : decode cX12_type 25 = .ok (.ireturn, 1) := by decide +kernel
theorem dX12_type_26 : decode cX12_type 26 = .ok (.aload_n 0, 1) := by decide +kernel
theorem dX12_type_27 : decode cX12_type 27 = .ok (.getfield 19, 3) := by decide +kernel
theorem dX12_type_30 : decode cX12_type 30 = .ok (.aload_n 0, 1) := by decide +kernel
theorem dX12_type_31 : decode cX12_type 31 = .ok (.getfield 175, 3) := by decide +kernel
theorem dX12_type_34 : decode cX12_type 34 = .ok (.iload_n 1, 1) := by decide +kernel
theorem dX12_type_35 : decode cX12_type 35 = .ok (.iastore, 1) := by decide +kernel
theorem dX12_type_36 : decode cX12_type 36 = .ok (.aload_n 0, 1) := by decide +kernel
theorem dX12_type_37 : decode cX12_type 37 = .ok (.dup, 1) := by decide +kernel
theorem dX12_type_38 : decode cX12_type 38 = .ok (.getfield 175, 3) := by decide +kernel
theorem dX12_type_41 : decode cX12_type 41 = .ok (.iconst 1, 1) := by decide +kernel
theorem dX12_type_42 : decode cX12_type 42 = .ok (.iadd, 1) := by decide +kernel
theorem dX12_type_43 : decode cX12_type 43 = .ok (.putfield 175, 3) := by decide +kernel
theorem dX12_type_46 : decode cX12_type 46 = .ok (.aload_n 0, 1) := by decide +kernel
theorem dX12_type_47 : decode cX12_type 47 = .ok (.getfield 175, 3) := by decide +kernel
theorem dX12_type_50 : decode cX12_type 50 = .ok (.ireturn, 1) := by decide +kernel
theorem dX12_clearText_0 : decode cX12_clearText 0 = .ok (.aload_n 0, 1) := by decide +kernel
theorem dX12_clearText_1 : decode cX12_clearText 1 = .ok (.getfield 175, 3) := by decide +kernel
theorem dX12_clearText_4 : decode cX12_clearText 4 = .ok (.istore_n 1, 1) := by decide +kernel
theorem dX12_clearText_5 : decode cX12_clearText 5 = .ok (.aload_n 0, 1) := by decide +kernel
theorem dX12_clearText_6 : decode cX12_clearText 6 = .ok (.iconst 0, 1) := by decide +kernel
theorem dX12_clearText_7 : decode cX12_clearText 7 = .ok (.putfield 175, 3) := by decide +kernel
theorem dX12_clearText_10 : decode cX12_clearText 10 = .ok (.iload_n 1, 1) := by decide +kernel
theorem dX12_clearText_11 : decode cX12_clearText 11 = .ok (.ireturn, 1) := by decide +kernel
theorem dX12_sees_0 : decode cX12_sees 0 = .ok (.aload_n 0, 1) := by decide +kernel
theorem dX12_sees_1 : decode cX12_sees 1 = .ok (.getfield 188, 3) := by decide +kernel
theorem dX12_sees_4 : decode cX12_sees 4 = .ok (.aload_n 0, 1) := by decide +kernel
theorem dX12_sees_5 : decode cX12_sees 5 = .ok (.getfield 175, 3) := by decide +kernel
theorem dX12_sees_8 : decode cX12_sees 8 = .ok (.if_icmp .ge 33, 3) := by decide +kernel
theorem dX12_sees_11 : decode cX12_sees 11 = .ok (.aload_n 0, 1) := by decide +kernel
theorem dX12_sees_12 : decode cX12_sees 12 = .ok (.getfield 19, 3) := by decide +kernel
theorem dX12_sees_15 : decode cX12_sees 15 = .ok (.aload_n 0, 1) := by decide +kernel
theorem dX12_sees_16 : decode cX12_sees 16 = .ok (.getfield 188, 3) := by decide +kernel
theorem dX12_sees_19 : decode cX12_sees 19 = .ok (.iaload, 1) := by decide +kernel
theorem dX12_sees_20 : decode cX12_sees 20 = .ok (.iload_n 1, 1) := by decide +kernel
theorem dX12_sees_21 : decode cX12_sees 21 = .ok (.if_icmp .eq 16, 3) := by decide +kernel
theorem dX12_sees_24 : decode cX12_sees 24 = .ok (.aload_n 0, 1) := by decide +kernel
theorem dX12_sees_25 : decode cX12_sees 25 = .ok (.getfield 19, 3) := by decide +kernel
theorem dX12_sees_28 : decode cX12_sees 28 = .ok (.aload_n 0, 1) := by decide +kernel
theorem dX12_sees_29 : decode cX12_sees 29 = .ok (.getfield 188, 3) := by decide +kernel
theorem dX12_sees_32 : decode cX12_sees 32 = .ok (.iaload, 1) := by decide +kernel
theorem dX12_sees_33 : decode cX12_sees 33 = .ok (.iload_n 2, 1) := by decide +kernel
theorem dX12_sees_34 : decode cX12_sees 34 = .ok (.if_icmp .ne 7, 3) := by decide +kernel
theorem dX12_sees_37 : decode cX12_sees 37 = .ok (.iconst 1, 1) := by decide +kernel
theorem dX12_sees_38 : decode cX12_sees 38 = .ok (.goto 4, 3) := by decide +kernel
theorem dX12_sees_41 : decode cX12_sees 41 = .ok (.iconst 0, 1) := by decide +kernel
theorem dX12_sees_42 : decode cX12_sees 42 = .ok (.ireturn, 1) := by decide +kernel
theorem dX12_readsTerm_0 : decode cX12_readsTerm 0 = .ok (.aload_n 0, 1) := by decide +kernel
theorem dX12_readsTerm_1 : decode cX12_readsTerm 1 = .ok (.getfield 188, 3) := by decide +kernel
theorem dX12_readsTerm_4 : decode cX12_readsTerm 4 = .ok (.aload_n 0, 1) := by decide +kernel
theorem dX12_readsTerm_5 : decode cX12_readsTerm 5 = .ok (.getfield 175, 3) := by decide +kernel
theorem dX12_readsTerm_8 : decode cX12_readsTerm 8 = .ok (.if_icmp .ge 26, 3) := by decide +kernel
theorem dX12_readsTerm_11 : decode cX12_readsTerm 11 = .ok (.aload_n 0, 1) := by decide +kernel
theorem dX12_readsTerm_12 : decode cX12_readsTerm 12 = .ok (.getfield 19, 3) := by decide +kernel
