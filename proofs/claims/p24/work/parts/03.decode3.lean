theorem dX11_read_49 : decode cX11_read 49 = .ok (.getfield 55, 3) := by decide +kernel
theorem dX11_read_52 : decode cX11_read 52 = .ok (.aload_n 0, 1) := by decide +kernel
theorem dX11_read_53 : decode cX11_read 53 = .ok (.getfield 40, 3) := by decide +kernel
theorem dX11_read_56 : decode cX11_read 56 = .ok (.getfield 301, 3) := by decide +kernel
theorem dX11_read_59 : decode cX11_read 59 = .ok (.invokevirtual 302, 3) := by decide +kernel
theorem dX11_read_62 : decode cX11_read 62 = .ok (.aload_n 0, 1) := by decide +kernel
theorem dX11_read_63 : decode cX11_read 63 = .ok (.getfield 10, 3) := by decide +kernel
theorem dX11_read_66 : decode cX11_read 66 = .ok (.getfield 55, 3) := by decide +kernel
theorem dX11_read_69 : decode cX11_read 69 = .ok (.getfield 83, 3) := by decide +kernel
theorem dX11_read_72 : decode cX11_read 72 = .ok (.ireturn, 1) := by decide +kernel
theorem dX11_isWithin_0 : decode cX11_isWithin 0 = .ok (.lload_n 0, 1) := by decide +kernel
theorem dX11_isWithin_1 : decode cX11_isWithin 1 = .ok (.lload_n 2, 1) := by decide +kernel
theorem dX11_isWithin_2 : decode cX11_isWithin 2 = .ok (.lcmp, 1) := by decide +kernel
theorem dX11_isWithin_3 : decode cX11_isWithin 3 = .ok (.ifCond .lt 14, 3) := by decide +kernel
theorem dX11_isWithin_6 : decode cX11_isWithin 6 = .ok (.lload_n 0, 1) := by decide +kernel
theorem dX11_isWithin_7 : decode cX11_isWithin 7 = .ok (.lload 4, 2) := by decide +kernel
theorem dX11_isWithin_9 : decode cX11_isWithin 9 = .ok (.lcmp, 1) := by decide +kernel
theorem dX11_isWithin_10 : decode cX11_isWithin 10 = .ok (.ifCond .gt 7, 3) := by decide +kernel
theorem dX11_isWithin_13 : decode cX11_isWithin 13 = .ok (.iconst 1, 1) := by decide +kernel
theorem dX11_isWithin_14 : decode cX11_isWithin 14 = .ok (.goto 4, 3) := by decide +kernel
theorem dX11_isWithin_17 : decode cX11_isWithin 17 = .ok (.iconst 0, 1) := by decide +kernel
theorem dX11_isWithin_18 : decode cX11_isWithin 18 = .ok (.ireturn, 1) := by decide +kernel
theorem dX11_isPlace_0 : decode cX11_isPlace 0 = .ok (.lload_n 0, 1) := by decide +kernel
theorem dX11_isPlace_1 : decode cX11_isPlace 1 = .ok (.ldc2_w 262, 3) := by decide +kernel
theorem dX11_isPlace_4 : decode cX11_isPlace 4 = .ok (.ldc2_w 264, 3) := by decide +kernel
theorem dX11_isPlace_7 : decode cX11_isPlace 7 = .ok (.invokestatic 48, 3) := by decide +kernel
theorem dX11_isPlace_10 : decode cX11_isPlace 10 = .ok (.ifCond .eq 20, 3) := by decide +kernel
theorem dX11_isPlace_13 : decode cX11_isPlace 13 = .ok (.lload_n 2, 1) := by decide +kernel
theorem dX11_isPlace_14 : decode cX11_isPlace 14 = .ok (.ldc2_w 262, 3) := by decide +kernel
theorem dX11_isPlace_17 : decode cX11_isPlace 17 = .ok (.ldc2_w 264, 3) := by decide +kernel
theorem dX11_isPlace_20 : decode cX11_isPlace 20 = .ok (.invokestatic 48, 3) := by decide +kernel
theorem dX11_isPlace_23 : decode cX11_isPlace 23 = .ok (.ifCond .eq 7, 3) := by decide +kernel
theorem dX11_isPlace_26 : decode cX11_isPlace 26 = .ok (.iconst 1, 1) := by decide +kernel
theorem dX11_isPlace_27 : decode cX11_isPlace 27 = .ok (.goto 4, 3) := by decide +kernel
theorem dX11_isPlace_30 : decode cX11_isPlace 30 = .ok (.iconst 0, 1) := by decide +kernel
theorem dX11_isPlace_31 : decode cX11_isPlace 31 = .ok (.ireturn, 1) := by decide +kernel
theorem dX11_isSign_0 : decode cX11_isSign 0 = .ok (.iload_n 0, 1) := by decide +kernel
theorem dX11_isSign_1 : decode cX11_isSign 1 = .ok (.iconst 1, 1) := by decide +kernel
theorem dX11_isSign_2 : decode cX11_isSign 2 = .ok (.if_icmp .eq 8, 3) := by decide +kernel
theorem dX11_isSign_5 : decode cX11_isSign 5 = .ok (.iload_n 0, 1) := by decide +kernel
theorem dX11_isSign_6 : decode cX11_isSign 6 = .ok (.iconst (-1), 1) := by decide +kernel
theorem dX11_isSign_7 : decode cX11_isSign 7 = .ok (.if_icmp .ne 7, 3) := by decide +kernel
theorem dX11_isSign_10 : decode cX11_isSign 10 = .ok (.iconst 1, 1) := by decide +kernel
theorem dX11_isSign_11 : decode cX11_isSign 11 = .ok (.goto 4, 3) := by decide +kernel
theorem dX11_isSign_14 : decode cX11_isSign 14 = .ok (.iconst 0, 1) := by decide +kernel
theorem dX11_isSign_15 : decode cX11_isSign 15 = .ok (.ireturn, 1) := by decide +kernel
theorem dX11_power_0 : decode cX11_power 0 = .ok (.lconst 1, 1) := by decide +kernel
theorem dX11_power_1 : decode cX11_power 1 = .ok (.lstore_n 3, 1) := by decide +kernel
theorem dX11_power_2 : decode cX11_power 2 = .ok (.iconst 0, 1) := by decide +kernel
theorem dX11_power_3 : decode cX11_power 3 = .ok (.istore 5, 2) := by decide +kernel
theorem dX11_power_5 : decode cX11_power 5 = .ok (.iload 5, 2) := by decide +kernel
theorem dX11_power_7 : decode cX11_power 7 = .ok (.iload_n 2, 1) := by decide +kernel
theorem dX11_power_8 : decode cX11_power 8 = .ok (.if_icmp .ge 13, 3) := by decide +kernel
theorem dX11_power_11 : decode cX11_power 11 = .ok (.lload_n 3, 1) := by decide +kernel
theorem dX11_power_12 : decode cX11_power 12 = .ok (.lload_n 0, 1) := by decide +kernel
theorem dX11_power_13 : decode cX11_power 13 = .ok (.lmul, 1) := by decide +kernel
theorem dX11_power_14 : decode cX11_power 14 = .ok (.lstore_n 3, 1) := by decide +kernel
theorem dX11_power_15 : decode cX11_power 15 = .ok (.iinc 5 1, 3) := by decide +kernel
theorem dX11_power_18 : decode cX11_power 18 = .ok (.goto (-13), 3) := by decide +kernel
theorem dX11_power_21 : decode cX11_power 21 = .ok (.lload_n 3, 1) := by decide +kernel
theorem dX11_power_22 : decode cX11_power 22 = .ok (.lreturn, 1) := by decide +kernel
theorem dX11_rootOf_0 : decode cX11_rootOf 0 = .ok (.lconst 0, 1) := by decide +kernel
theorem dX11_rootOf_1 : decode cX11_rootOf 1 = .ok (.lstore_n 2, 1) := by decide +kernel
theorem dX11_rootOf_2 : decode cX11_rootOf 2 = .ok (.ldc2_w 306, 3) := by decide +kernel
theorem dX11_rootOf_5 : decode cX11_rootOf 5 = .ok (.lstore 4, 2) := by decide +kernel
theorem dX11_rootOf_7 : decode cX11_rootOf 7 = .ok (.lload 4, 2) := by decide +kernel
theorem dX11_rootOf_9 : decode cX11_rootOf 9 = .ok (.lconst 0, 1) := by decide +kernel
theorem dX11_rootOf_10 : decode cX11_rootOf 10 = .ok (.lcmp, 1) := by decide +kernel
theorem dX11_rootOf_11 : decode cX11_rootOf 11 = .ok (.ifCond .le 31, 3) := by decide +kernel
theorem dX11_rootOf_14 : decode cX11_rootOf 14 = .ok (.lload_n 2, 1) := by decide +kernel
theorem dX11_rootOf_15 : decode cX11_rootOf 15 = .ok (.lload 4, 2) := by decide +kernel
theorem dX11_rootOf_17 : decode cX11_rootOf 17 = .ok (.ladd, 1) := by decide +kernel
theorem dX11_rootOf_18 : decode cX11_rootOf 18 = .ok (.lstore 6, 2) := by decide +kernel
theorem dX11_rootOf_20 : decode cX11_rootOf 20 = .ok (.lload 6, 2) := by decide +kernel
theorem dX11_rootOf_22 : decode cX11_rootOf 22 = .ok (.lload 6, 2) := by decide +kernel
theorem dX11_rootOf_24 : decode cX11_rootOf 24 = .ok (.lmul, 1) := by decide +kernel
theorem dX11_rootOf_25 : decode cX11_rootOf 25 = .ok (.lload_n 0, 1) := by decide +kernel
theorem dX11_rootOf_26 : decode cX11_rootOf 26 = .ok (.lcmp, 1) := by decide +kernel
theorem dX11_rootOf_27 : decode cX11_rootOf 27 = .ok (.ifCond .gt 6, 3) := by decide +kernel
theorem dX11_rootOf_30 : decode cX11_rootOf 30 = .ok (.lload 6, 2) := by decide +kernel
theorem dX11_rootOf_32 : decode cX11_rootOf 32 = .ok (.lstore_n 2, 1) := by decide +kernel
theorem dX11_rootOf_33 : decode cX11_rootOf 33 = .ok (.lload 4, 2) := by decide +kernel
theorem dX11_rootOf_35 : decode cX11_rootOf 35 = .ok (.iconst 1, 1) := by decide +kernel
theorem dX11_rootOf_36 : decode cX11_rootOf 36 = .ok (.lshr, 1) := by decide +kernel
theorem dX11_rootOf_37 : decode cX11_rootOf 37 = .ok (.lstore 4, 2) := by decide +kernel
theorem dX11_rootOf_39 : decode cX11_rootOf 39 = .ok (.goto (-32), 3) := by decide +kernel
theorem dX11_rootOf_42 : decode cX11_rootOf 42 = .ok (.lload_n 2, 1) := by decide +kernel
theorem dX11_rootOf_43 : decode cX11_rootOf 43 = .ok (.lreturn, 1) := by decide +kernel
theorem dJ9_max_7cf53_0 : decode cJ9_max_7cf53 0 = .ok (.iload_n 0, 1) := by decide +kernel
theorem dJ9_max_7cf53_1 : decode cJ9_max_7cf53 1 = .ok (.iload_n 1, 1) := by decide +kernel
theorem dJ9_max_7cf53_2 : decode cJ9_max_7cf53 2 = .ok (.if_icmp .lt 7, 3) := by decide +kernel
theorem dJ9_max_7cf53_5 : decode cJ9_max_7cf53 5 = .ok (.iload_n 0, 1) := by decide +kernel
theorem dJ9_max_7cf53_6 : decode cJ9_max_7cf53 6 = .ok (.goto 4, 3) := by decide +kernel
theorem dJ9_max_7cf53_9 : decode cJ9_max_7cf53 9 = .ok (.iload_n 1, 1) := by decide +kernel
theorem dJ9_max_7cf53_10 : decode cJ9_max_7cf53 10 = .ok (.ireturn, 1) := by decide +kernel
theorem dJ9_min_7cf53_0 : decode cJ9_min_7cf53 0 = .ok (.iload_n 0, 1) := by decide +kernel
theorem dJ9_min_7cf53_1 : decode cJ9_min_7cf53 1 = .ok (.iload_n 1, 1) := by decide +kernel
theorem dJ9_min_7cf53_2 : decode cJ9_min_7cf53 2 = .ok (.if_icmp .gt 7, 3) := by decide +kernel
theorem dJ9_min_7cf53_5 : decode cJ9_min_7cf53 5 = .ok (.iload_n 0, 1) := by decide +kernel
theorem dJ9_min_7cf53_6 : decode cJ9_min_7cf53 6 = .ok (.goto 4, 3) := by decide +kernel
theorem dJ9_min_7cf53_9 : decode cJ9_min_7cf53 9 = .ok (.iload_n 1, 1) := by decide +kernel
theorem dJ9_min_7cf53_10 : decode cJ9_min_7cf53 10 = .ok (.ireturn, 1) := by decide +kernel
theorem dL_lot_0 : decode cL_lot 0 = .ok (.iload_n 1, 1) := by decide +kernel
theorem dL_lot_1 : decode cL_lot 1 = .ok (.aload_n 0, 1) := by decide +kernel
theorem dL_lot_2 : decode cL_lot 2 = .ok (.arraylength, 1) := by decide +kernel
theorem dL_lot_3 : decode cL_lot 3 = .ok (.if_icmp .ge 9, 3) := by decide +kernel
theorem dL_lot_6 : decode cL_lot 6 = .ok (.aload_n 0, 1) := by decide +kernel
theorem dL_lot_7 : decode cL_lot 7 = .ok (.iload_n 1, 1) := by decide +kernel
theorem dL_lot_8 : decode cL_lot 8 = .ok (.iaload, 1) := by decide +kernel
theorem dL_lot_9 : decode cL_lot 9 = .ok (.goto 15, 3) := by decide +kernel
theorem dL_lot_12 : decode cL_lot 12 = .ok (.ldc 7, 2) := by decide +kernel
theorem dL_lot_14 : decode cL_lot 14 = .ok (.iload_n 1, 1) := by decide +kernel
theorem dL_lot_15 : decode cL_lot 15 = .ok (.sipush 2939, 3) := by decide +kernel
theorem dL_lot_18 : decode cL_lot 18 = .ok (.iadd, 1) := by decide +kernel
theorem dL_lot_19 : decode cL_lot 19 = .ok (.imul, 1) := by decide +kernel
theorem dL_lot_20 : decode cL_lot 20 = .ok (.sipush 2713, 3) := by decide +kernel
theorem dL_lot_23 : decode cL_lot 23 = .ok (.iadd, 1) := by decide +kernel
theorem dL_lot_24 : decode cL_lot 24 = .ok (.ireturn, 1) := by decide +kernel
theorem dL_low_0 : decode cL_low 0 = .ok (.iload_n 0, 1) := by decide +kernel
theorem dL_low_1 : decode cL_low 1 = .ok (.ldc 8, 2) := by decide +kernel
theorem dL_low_3 : decode cL_low 3 = .ok (.iand, 1) := by decide +kernel
theorem dL_low_4 : decode cL_low 4 = .ok (.iload_n 1, 1) := by decide +kernel
theorem dL_low_5 : decode cL_low 5 = .ok (.irem, 1) := by decide +kernel
theorem dL_low_6 : decode cL_low 6 = .ok (.ireturn, 1) := by decide +kernel
theorem dL_digest_0 : decode cL_digest 0 = .ok (.ldc2_w 9, 3) := by decide +kernel
theorem dL_digest_3 : decode cL_digest 3 = .ok (.lstore_n 1, 1) := by decide +kernel
theorem dL_digest_4 : decode cL_digest 4 = .ok (.iconst 0, 1) := by decide +kernel
theorem dL_digest_5 : decode cL_digest 5 = .ok (.istore_n 3, 1) := by decide +kernel
theorem dL_digest_6 : decode cL_digest 6 = .ok (.iload_n 3, 1) := by decide +kernel
theorem dL_digest_7 : decode cL_digest 7 = .ok (.bipush 13, 2) := by decide +kernel
theorem dL_digest_9 : decode cL_digest 9 = .ok (.if_icmp .ge 37, 3) := by decide +kernel
theorem dL_digest_12 : decode cL_digest 12 = .ok (.ldc2_w 11, 3) := by decide +kernel
theorem dL_digest_15 : decode cL_digest 15 = .ok (.lload_n 1, 1) := by decide +kernel
theorem dL_digest_16 : decode cL_digest 16 = .ok (.lmul, 1) := by decide +kernel
theorem dL_digest_17 : decode cL_digest 17 = .ok (.iload_n 3, 1) := by decide +kernel
theorem dL_digest_18 : decode cL_digest 18 = .ok (.iconst 5, 1) := by decide +kernel
theorem dL_digest_19 : decode cL_digest 19 = .ok (.if_icmp .eq 9, 3) := by decide +kernel
theorem dL_digest_22 : decode cL_digest 22 = .ok (.iload_n 3, 1) := by decide +kernel
theorem dL_digest_23 : decode cL_digest 23 = .ok (.bipush 6, 2) := by decide +kernel
theorem dL_digest_25 : decode cL_digest 25 = .ok (.if_icmp .ne 7, 3) := by decide +kernel
theorem dL_digest_28 : decode cL_digest 28 = .ok (.iconst 0, 1) := by decide +kernel
theorem dL_digest_29 : decode cL_digest 29 = .ok (.goto 8, 3) := by decide +kernel
theorem dL_digest_32 : decode cL_digest 32 = .ok (.aload_n 0, 1) := by decide +kernel
theorem dL_digest_33 : decode cL_digest 33 = .ok (.iload_n 3, 1) := by decide +kernel
theorem dL_digest_34 : decode cL_digest 34 = .ok (.invokevirtual 13, 3) := by decide +kernel
theorem dL_digest_37 : decode cL_digest 37 = .ok (.i2l, 1) := by decide +kernel
theorem dL_digest_38 : decode cL_digest 38 = .ok (.ladd, 1) := by decide +kernel
theorem dL_digest_39 : decode cL_digest 39 = .ok (.lstore_n 1, 1) := by decide +kernel
theorem dL_digest_40 : decode cL_digest 40 = .ok (.iinc 3 1, 3) := by decide +kernel
theorem dL_digest_43 : decode cL_digest 43 = .ok (.goto (-37), 3) := by decide +kernel
theorem dL_digest_46 : decode cL_digest 46 = .ok (.iconst 0, 1) := by decide +kernel
theorem dL_digest_47 : decode cL_digest 47 = .ok (.istore_n 3, 1) := by decide +kernel
theorem dL_digest_48 : decode cL_digest 48 = .ok (.iload_n 3, 1) := by decide +kernel
theorem dL_digest_49 : decode cL_digest 49 = .ok (.bipush 18, 2) := by decide +kernel
theorem dL_digest_51 : decode cL_digest 51 = .ok (.if_icmp .ge 27, 3) := by decide +kernel
theorem dL_digest_54 : decode cL_digest 54 = .ok (.ldc2_w 11, 3) := by decide +kernel
theorem dL_digest_57 : decode cL_digest 57 = .ok (.lload_n 1, 1) := by decide +kernel
theorem dL_digest_58 : decode cL_digest 58 = .ok (.lmul, 1) := by decide +kernel
theorem dL_digest_59 : decode cL_digest 59 = .ok (.aload_n 0, 1) := by decide +kernel
theorem dL_digest_60 : decode cL_digest 60 = .ok (.iload_n 3, 1) := by decide +kernel
theorem dL_digest_61 : decode cL_digest 61 = .ok (.iconst 3, 1) := by decide +kernel
theorem dL_digest_62 : decode cL_digest 62 = .ok (.idiv, 1) := by decide +kernel
theorem dL_digest_63 : decode cL_digest 63 = .ok (.iload_n 3, 1) := by decide +kernel
theorem dL_digest_64 : decode cL_digest 64 = .ok (.iconst 3, 1) := by decide +kernel
theorem dL_digest_65 : decode cL_digest 65 = .ok (.irem, 1) := by decide +kernel
theorem dL_digest_66 : decode cL_digest 66 = .ok (.invokevirtual 19, 3) := by decide +kernel
theorem dL_digest_69 : decode cL_digest 69 = .ok (.i2l, 1) := by decide +kernel
theorem dL_digest_70 : decode cL_digest 70 = .ok (.ladd, 1) := by decide +kernel
theorem dL_digest_71 : decode cL_digest 71 = .ok (.lstore_n 1, 1) := by decide +kernel
theorem dL_digest_72 : decode cL_digest 72 = .ok (.iinc 3 1, 3) := by decide +kernel
theorem dL_digest_75 : decode cL_digest 75 = .ok (.goto (-27), 3) := by decide +kernel
theorem dL_digest_78 : decode cL_digest 78 = .ok (.iconst 0, 1) := by decide +kernel
theorem dL_digest_79 : decode cL_digest 79 = .ok (.istore_n 3, 1) := by decide +kernel
theorem dL_digest_80 : decode cL_digest 80 = .ok (.iload_n 3, 1) := by decide +kernel
theorem dL_digest_81 : decode cL_digest 81 = .ok (.aload_n 0, 1) := by decide +kernel
theorem dL_digest_82 : decode cL_digest 82 = .ok (.iconst 1, 1) := by decide +kernel
theorem dL_digest_83 : decode cL_digest 83 = .ok (.invokevirtual 13, 3) := by decide +kernel
theorem dL_digest_86 : decode cL_digest 86 = .ok (.if_icmp .ge 122, 3) := by decide +kernel
theorem dL_digest_89 : decode cL_digest 89 = .ok (.iconst 0, 1) := by decide +kernel
theorem dL_digest_90 : decode cL_digest 90 = .ok (.istore 4, 2) := by decide +kernel
theorem dL_digest_92 : decode cL_digest 92 = .ok (.iload 4, 2) := by decide +kernel
theorem dL_digest_94 : decode cL_digest 94 = .ok (.bipush 9, 2) := by decide +kernel
theorem dL_digest_96 : decode cL_digest 96 = .ok (.if_icmp .ge 24, 3) := by decide +kernel
theorem dL_digest_99 : decode cL_digest 99 = .ok (.ldc2_w 11, 3) := by decide +kernel
theorem dL_digest_102 : decode cL_digest 102 = .ok (.lload_n 1, 1) := by decide +kernel
theorem dL_digest_103 : decode cL_digest 103 = .ok (.lmul, 1) := by decide +kernel
theorem dL_digest_104 : decode cL_digest 104 = .ok (.aload_n 0, 1) := by decide +kernel
theorem dL_digest_105 : decode cL_digest 105 = .ok (.iload_n 3, 1) := by decide +kernel
theorem dL_digest_106 : decode cL_digest 106 = .ok (.iload 4, 2) := by decide +kernel
theorem dL_digest_108 : decode cL_digest 108 = .ok (.invokevirtual 23, 3) := by decide +kernel
theorem dL_digest_111 : decode cL_digest 111 = .ok (.i2l, 1) := by decide +kernel
theorem dL_digest_112 : decode cL_digest 112 = .ok (.ladd, 1) := by decide +kernel
theorem dL_digest_113 : decode cL_digest 113 = .ok (.lstore_n 1, 1) := by decide +kernel
theorem dL_digest_114 : decode cL_digest 114 = .ok (.iinc 4 1, 3) := by decide +kernel
theorem dL_digest_117 : decode cL_digest 117 = .ok (.goto (-25), 3) := by decide +kernel
theorem dL_digest_120 : decode cL_digest 120 = .ok (.aload_n 0, 1) := by decide +kernel
theorem dL_digest_121 : decode cL_digest 121 = .ok (.iload_n 3, 1) := by decide +kernel
theorem dL_digest_122 : decode cL_digest 122 = .ok (.iconst 0, 1) := by decide +kernel
theorem dL_digest_123 : decode cL_digest 123 = .ok (.invokevirtual 23, 3) := by decide +kernel
theorem dL_digest_126 : decode cL_digest 126 = .ok (.istore 4, 2) := by decide +kernel
theorem dL_digest_128 : decode cL_digest 128 = .ok (.iconst 0, 1) := by decide +kernel
theorem dL_digest_129 : decode cL_digest 129 = .ok (.istore 5, 2) := by decide +kernel
theorem dL_digest_131 : decode cL_digest 131 = .ok (.iload 5, 2) := by decide +kernel
theorem dL_digest_133 : decode cL_digest 133 = .ok (.iload 4, 2) := by decide +kernel
theorem dL_digest_135 : decode cL_digest 135 = .ok (.if_icmp .ge 67, 3) := by decide +kernel
theorem dL_digest_138 : decode cL_digest 138 = .ok (.ldc2_w 11, 3) := by decide +kernel
theorem dL_digest_141 : decode cL_digest 141 = .ok (.lload_n 1, 1) := by decide +kernel
theorem dL_digest_142 : decode cL_digest 142 = .ok (.lmul, 1) := by decide +kernel
theorem dL_digest_143 : decode cL_digest 143 = .ok (.ldc2_w 26, 3) := by decide +kernel
theorem dL_digest_146 : decode cL_digest 146 = .ok (.aload_n 0, 1) := by decide +kernel
theorem dL_digest_147 : decode cL_digest 147 = .ok (.iload_n 3, 1) := by decide +kernel
theorem dL_digest_148 : decode cL_digest 148 = .ok (.iload 5, 2) := by decide +kernel
theorem dL_digest_150 : decode cL_digest 150 = .ok (.iconst 0, 1) := by decide +kernel
theorem dL_digest_151 : decode cL_digest 151 = .ok (.invokevirtual 28, 3) := by decide +kernel
theorem dL_digest_154 : decode cL_digest 154 = .ok (.i2l, 1) := by decide +kernel
theorem dL_digest_155 : decode cL_digest 155 = .ok (.lmul, 1) := by decide +kernel
theorem dL_digest_156 : decode cL_digest 156 = .ok (.ladd, 1) := by decide +kernel
theorem dL_digest_157 : decode cL_digest 157 = .ok (.aload_n 0, 1) := by decide +kernel
theorem dL_digest_158 : decode cL_digest 158 = .ok (.iload_n 3, 1) := by decide +kernel
theorem dL_digest_159 : decode cL_digest 159 = .ok (.iload 5, 2) := by decide +kernel
theorem dL_digest_161 : decode cL_digest 161 = .ok (.iconst 1, 1) := by decide +kernel
theorem dL_digest_162 : decode cL_digest 162 = .ok (.invokevirtual 28, 3) := by decide +kernel
theorem dL_digest_165 : decode cL_digest 165 = .ok (.i2l, 1) := by decide +kernel
theorem dL_digest_166 : decode cL_digest 166 = .ok (.ladd, 1) := by decide +kernel
theorem dL_digest_167 : decode cL_digest 167 = .ok (.ldc2_w 32, 3) := by decide +kernel
theorem dL_digest_170 : decode cL_digest 170 = .ok (.aload_n 0, 1) := by decide +kernel
theorem dL_digest_171 : decode cL_digest 171 = .ok (.iload_n 3, 1) := by decide +kernel
theorem dL_digest_172 : decode cL_digest 172 = .ok (.iload 5, 2) := by decide +kernel
theorem dL_digest_174 : decode cL_digest 174 = .ok (.iconst 2, 1) := by decide +kernel
theorem dL_digest_175 : decode cL_digest 175 = .ok (.invokevirtual 28, 3) := by decide +kernel
theorem dL_digest_178 : decode cL_digest 178 = .ok (.i2l, 1) := by decide +kernel
theorem dL_digest_179 : decode cL_digest 179 = .ok (.lmul, 1) := by decide +kernel
theorem dL_digest_180 : decode cL_digest 180 = .ok (.ladd, 1) := by decide +kernel
theorem dL_digest_181 : decode cL_digest 181 = .ok (.ldc2_w 34, 3) := by decide +kernel
theorem dL_digest_184 : decode cL_digest 184 = .ok (.aload_n 0, 1) := by decide +kernel
theorem dL_digest_185 : decode cL_digest 185 = .ok (.iload_n 3, 1) := by decide +kernel
theorem dL_digest_186 : decode cL_digest 186 = .ok (.iload 5, 2) := by decide +kernel
theorem dL_digest_188 : decode cL_digest 188 = .ok (.iconst 3, 1) := by decide +kernel
theorem dL_digest_189 : decode cL_digest 189 = .ok (.invokevirtual 28, 3) := by decide +kernel
theorem dL_digest_192 : decode cL_digest 192 = .ok (.i2l, 1) := by decide +kernel
theorem dL_digest_193 : decode cL_digest 193 = .ok (.lmul, 1) := by decide +kernel
theorem dL_digest_194 : decode cL_digest 194 = .ok (.ladd, 1) := by decide +kernel
theorem dL_digest_195 : decode cL_digest 195 = .ok (.lstore_n 1, 1) := by decide +kernel
theorem dL_digest_196 : decode cL_digest 196 = .ok (.iinc 5 1, 3) := by decide +kernel
theorem dL_digest_199 : decode cL_digest 199 = .ok (.goto (-68), 3) := by decide +kernel
theorem dL_digest_202 : decode cL_digest 202 = .ok (.iinc 3 1, 3) := by decide +kernel
theorem dL_digest_205 : decode cL_digest 205 = .ok (.goto (-125), 3) := by decide +kernel
theorem dL_digest_208 : decode cL_digest 208 = .ok (.lload_n 1, 1) := by decide +kernel
theorem dL_digest_209 : decode cL_digest 209 = .ok (.lreturn, 1) := by decide +kernel
theorem dL_holds_0 : decode cL_holds 0 = .ok (.aload_n 0, 1) := by decide +kernel
theorem dL_holds_1 : decode cL_holds 1 = .ok (.iconst 1, 1) := by decide +kernel
theorem dL_holds_2 : decode cL_holds 2 = .ok (.invokevirtual 13, 3) := by decide +kernel
theorem dL_holds_5 : decode cL_holds 5 = .ok (.istore_n 2, 1) := by decide +kernel
theorem dL_holds_6 : decode cL_holds 6 = .ok (.iconst 0, 1) := by decide +kernel
theorem dL_holds_7 : decode cL_holds 7 = .ok (.istore_n 3, 1) := by decide +kernel
theorem dL_holds_8 : decode cL_holds 8 = .ok (.iconst 0, 1) := by decide +kernel
theorem dL_holds_9 : decode cL_holds 9 = .ok (.istore 4, 2) := by decide +kernel
theorem dL_holds_11 : decode cL_holds 11 = .ok (.iconst 0, 1) := by decide +kernel
theorem dL_holds_12 : decode cL_holds 12 = .ok (.istore 5, 2) := by decide +kernel
theorem dL_holds_14 : decode cL_holds 14 = .ok (.iconst 0, 1) := by decide +kernel
theorem dL_holds_15 : decode cL_holds 15 = .ok (.istore 6, 2) := by decide +kernel
theorem dL_holds_17 : decode cL_holds 17 = .ok (.iload 6, 2) := by decide +kernel
theorem dL_holds_19 : decode cL_holds 19 = .ok (.iload_n 2, 1) := by decide +kernel
theorem dL_holds_20 : decode cL_holds 20 = .ok (.if_icmp .ge 359, 3) := by decide +kernel
theorem dL_holds_23 : decode cL_holds 23 = .ok (.aload_n 0, 1) := by decide +kernel
theorem dL_holds_24 : decode cL_holds 24 = .ok (.iload 6, 2) := by decide +kernel
theorem dL_holds_26 : decode cL_holds 26 = .ok (.iconst 0, 1) := by decide +kernel
theorem dL_holds_27 : decode cL_holds 27 = .ok (.invokevirtual 23, 3) := by decide +kernel
theorem dL_holds_30 : decode cL_holds 30 = .ok (.istore 7, 2) := by decide +kernel
theorem dL_holds_32 : decode cL_holds 32 = .ok (.aload_n 0, 1) := by decide +kernel
theorem dL_holds_33 : decode cL_holds 33 = .ok (.iload 6, 2) := by decide +kernel
theorem dL_holds_35 : decode cL_holds 35 = .ok (.bipush 6, 2) := by decide +kernel
theorem dL_holds_37 : decode cL_holds 37 = .ok (.invokevirtual 23, 3) := by decide +kernel
theorem dL_holds_40 : decode cL_holds 40 = .ok (.istore 8, 2) := by decide +kernel
theorem dL_holds_42 : decode cL_holds 42 = .ok (.aload_n 0, 1) := by decide +kernel
theorem dL_holds_43 : decode cL_holds 43 = .ok (.iload 6, 2) := by decide +kernel
theorem dL_holds_45 : decode cL_holds 45 = .ok (.bipush 7, 2) := by decide +kernel
theorem dL_holds_47 : decode cL_holds 47 = .ok (.invokevirtual 23, 3) := by decide +kernel
theorem dL_holds_50 : decode cL_holds 50 = .ok (.istore 9, 2) := by decide +kernel
theorem dL_holds_52 : decode cL_holds 52 = .ok (.iconst 0, 1) := by decide +kernel
theorem dL_holds_53 : decode cL_holds 53 = .ok (.istore 10, 2) := by decide +kernel
theorem dL_holds_55 : decode cL_holds 55 = .ok (.iconst 0, 1) := by decide +kernel
theorem dL_holds_56 : decode cL_holds 56 = .ok (.istore 11, 2) := by decide +kernel
theorem dL_holds_58 : decode cL_holds 58 = .ok (.iload 11, 2) := by decide +kernel
theorem dL_holds_60 : decode cL_holds 60 = .ok (.iload_n 2, 1) := by decide +kernel
theorem dL_holds_61 : decode cL_holds 61 = .ok (.if_icmp .ge 41, 3) := by decide +kernel
theorem dL_holds_64 : decode cL_holds 64 = .ok (.iload 10, 2) := by decide +kernel
theorem dL_holds_66 : decode cL_holds 66 = .ok (.aload_n 0, 1) := by decide +kernel
theorem dL_holds_67 : decode cL_holds 67 = .ok (.iload 11, 2) := by decide +kernel
theorem dL_holds_69 : decode cL_holds 69 = .ok (.bipush 6, 2) := by decide +kernel
theorem dL_holds_71 : decode cL_holds 71 = .ok (.invokevirtual 23, 3) := by decide +kernel
theorem dL_holds_74 : decode cL_holds 74 = .ok (.iload 6, 2) := by decide +kernel
theorem dL_holds_76 : decode cL_holds 76 = .ok (.if_icmp .ne 16, 3) := by decide +kernel
theorem dL_holds_79 : decode cL_holds 79 = .ok (.iconst 1, 1) := by decide +kernel
theorem dL_holds_80 : decode cL_holds 80 = .ok (.aload_n 0, 1) := by decide +kernel
theorem dL_holds_81 : decode cL_holds 81 = .ok (.iload 11, 2) := by decide +kernel
theorem dL_holds_83 : decode cL_holds 83 = .ok (.bipush 8, 2) := by decide +kernel
theorem dL_holds_85 : decode cL_holds 85 = .ok (.invokevirtual 23, 3) := by decide +kernel
theorem dL_holds_88 : decode cL_holds 88 = .ok (.iadd, 1) := by decide +kernel
theorem dL_holds_89 : decode cL_holds 89 = .ok (.goto 4, 3) := by decide +kernel
theorem dL_holds_92 : decode cL_holds 92 = .ok (.iconst 0, 1) := by decide +kernel
theorem dL_holds_93 : decode cL_holds 93 = .ok (.iadd, 1) := by decide +kernel
theorem dL_holds_94 : decode cL_holds 94 = .ok (.istore 10, 2) := by decide +kernel
theorem dL_holds_96 : decode cL_holds 96 = .ok (.iinc 11 1, 3) := by decide +kernel
theorem dL_holds_99 : decode cL_holds 99 = .ok (.goto (-41), 3) := by decide +kernel
theorem dL_holds_102 : decode cL_holds 102 = .ok (.iload_n 3, 1) := by decide +kernel
theorem dL_holds_103 : decode cL_holds 103 = .ok (.iload 7, 2) := by decide +kernel
theorem dL_holds_105 : decode cL_holds 105 = .ok (.iadd, 1) := by decide +kernel
theorem dL_holds_106 : decode cL_holds 106 = .ok (.istore_n 3, 1) := by decide +kernel
theorem dL_holds_107 : decode cL_holds 107 = .ok (.iload 4, 2) := by decide +kernel
theorem dL_holds_109 : decode cL_holds 109 = .ok (.aload_n 0, 1) := by decide +kernel
theorem dL_holds_110 : decode cL_holds 110 = .ok (.iload 6, 2) := by decide +kernel
theorem dL_holds_112 : decode cL_holds 112 = .ok (.iconst 4, 1) := by decide +kernel
theorem dL_holds_113 : decode cL_holds 113 = .ok (.invokevirtual 23, 3) := by decide +kernel
theorem dL_holds_116 : decode cL_holds 116 = .ok (.iadd, 1) := by decide +kernel
theorem dL_holds_117 : decode cL_holds 117 = .ok (.istore 4, 2) := by decide +kernel
theorem dL_holds_119 : decode cL_holds 119 = .ok (.iload 5, 2) := by decide +kernel
theorem dL_holds_121 : decode cL_holds 121 = .ok (.aload_n 0, 1) := by decide +kernel
theorem dL_holds_122 : decode cL_holds 122 = .ok (.iload 6, 2) := by decide +kernel
theorem dL_holds_124 : decode cL_holds 124 = .ok (.iconst 5, 1) := by decide +kernel
theorem dL_holds_125 : decode cL_holds 125 = .ok (.invokevirtual 23, 3) := by decide +kernel
theorem dL_holds_128 : decode cL_holds 128 = .ok (.iadd, 1) := by decide +kernel
theorem dL_holds_129 : decode cL_holds 129 = .ok (.istore 5, 2) := by decide +kernel
theorem dL_holds_131 : decode cL_holds 131 = .ok (.iload_n 1, 1) := by decide +kernel
theorem dL_holds_132 : decode cL_holds 132 = .ok (.iload 6, 2) := by decide +kernel
theorem dL_holds_134 : decode cL_holds 134 = .ok (.ishr, 1) := by decide +kernel
theorem dL_holds_135 : decode cL_holds 135 = .ok (.iload 7, 2) := by decide +kernel
theorem dL_holds_137 : decode cL_holds 137 = .ok (.invokestatic 36, 3) := by decide +kernel
theorem dL_holds_140 : decode cL_holds 140 = .ok (.istore 11, 2) := by decide +kernel
theorem dL_holds_142 : decode cL_holds 142 = .ok (.aload_n 0, 1) := by decide +kernel
theorem dL_holds_143 : decode cL_holds 143 = .ok (.iload 6, 2) := by decide +kernel
theorem dL_holds_145 : decode cL_holds 145 = .ok (.iload 11, 2) := by decide +kernel
theorem dL_holds_147 : decode cL_holds 147 = .ok (.iconst 0, 1) := by decide +kernel
theorem dL_holds_148 : decode cL_holds 148 = .ok (.invokevirtual 28, 3) := by decide +kernel
theorem dL_holds_151 : decode cL_holds 151 = .ok (.istore 12, 2) := by decide +kernel
theorem dL_holds_153 : decode cL_holds 153 = .ok (.aload_n 0, 1) := by decide +kernel
theorem dL_holds_154 : decode cL_holds 154 = .ok (.iload 6, 2) := by decide +kernel
theorem dL_holds_156 : decode cL_holds 156 = .ok (.iload 11, 2) := by decide +kernel
theorem dL_holds_158 : decode cL_holds 158 = .ok (.iconst 1, 1) := by decide +kernel
theorem dL_holds_159 : decode cL_holds 159 = .ok (.invokevirtual 28, 3) := by decide +kernel
theorem dL_holds_162 : decode cL_holds 162 = .ok (.istore 13, 2) := by decide +kernel
theorem dL_holds_164 : decode cL_holds 164 = .ok (.iload 7, 2) := by decide +kernel
theorem dL_holds_166 : decode cL_holds 166 = .ok (.ifCond .le 126, 3) := by decide +kernel
theorem dL_holds_169 : decode cL_holds 169 = .ok (.iload 7, 2) := by decide +kernel
theorem dL_holds_171 : decode cL_holds 171 = .ok (.bipush 40, 2) := by decide +kernel
theorem dL_holds_173 : decode cL_holds 173 = .ok (.if_icmp .gt 119, 3) := by decide +kernel
theorem dL_holds_176 : decode cL_holds 176 = .ok (.aload_n 0, 1) := by decide +kernel
theorem dL_holds_177 : decode cL_holds 177 = .ok (.iload 6, 2) := by decide +kernel
theorem dL_holds_179 : decode cL_holds 179 = .ok (.bipush 8, 2) := by decide +kernel
theorem dL_holds_181 : decode cL_holds 181 = .ok (.invokevirtual 23, 3) := by decide +kernel
theorem dL_holds_184 : decode cL_holds 184 = .ok (.iload 10, 2) := by decide +kernel
theorem dL_holds_186 : decode cL_holds 186 = .ok (.if_icmp .ne 106, 3) := by decide +kernel
theorem dL_holds_189 : decode cL_holds 189 = .ok (.iload 8, 2) := by decide +kernel
theorem dL_holds_191 : decode cL_holds 191 = .ok (.ldc 41, 2) := by decide +kernel
theorem dL_holds_193 : decode cL_holds 193 = .ok (.if_icmp .ne 7, 3) := by decide +kernel
theorem dL_holds_196 : decode cL_holds 196 = .ok (.iconst 1, 1) := by decide +kernel
theorem dL_holds_197 : decode cL_holds 197 = .ok (.goto 4, 3) := by decide +kernel
theorem dL_holds_200 : decode cL_holds 200 = .ok (.iconst 0, 1) := by decide +kernel
theorem dL_holds_201 : decode cL_holds 201 = .ok (.iload 9, 2) := by decide +kernel
theorem dL_holds_203 : decode cL_holds 203 = .ok (.ldc 41, 2) := by decide +kernel
theorem dL_holds_205 : decode cL_holds 205 = .ok (.if_icmp .ne 7, 3) := by decide +kernel
theorem dL_holds_208 : decode cL_holds 208 = .ok (.iconst 1, 1) := by decide +kernel
theorem dL_holds_209 : decode cL_holds 209 = .ok (.goto 4, 3) := by decide +kernel
theorem dL_holds_212 : decode cL_holds 212 = .ok (.iconst 0, 1) := by decide +kernel
theorem dL_holds_213 : decode cL_holds 213 = .ok (.if_icmp .ne 79, 3) := by decide +kernel
theorem dL_holds_216 : decode cL_holds 216 = .ok (.iload 8, 2) := by decide +kernel
theorem dL_holds_218 : decode cL_holds 218 = .ok (.iload 6, 2) := by decide +kernel
theorem dL_holds_220 : decode cL_holds 220 = .ok (.if_icmp .ge 72, 3) := by decide +kernel
theorem dL_holds_223 : decode cL_holds 223 = .ok (.iload 7, 2) := by decide +kernel
theorem dL_holds_225 : decode cL_holds 225 = .ok (.bipush 40, 2) := by decide +kernel
theorem dL_holds_227 : decode cL_holds 227 = .ok (.if_icmp .ne 7, 3) := by decide +kernel
theorem dL_holds_230 : decode cL_holds 230 = .ok (.iconst 1, 1) := by decide +kernel
theorem dL_holds_231 : decode cL_holds 231 = .ok (.goto 4, 3) := by decide +kernel
theorem dL_holds_234 : decode cL_holds 234 = .ok (.iconst 0, 1) := by decide +kernel
theorem dL_holds_235 : decode cL_holds 235 = .ok (.aload_n 0, 1) := by decide +kernel
theorem dL_holds_236 : decode cL_holds 236 = .ok (.iload 6, 2) := by decide +kernel
theorem dL_holds_238 : decode cL_holds 238 = .ok (.iconst 3, 1) := by decide +kernel
theorem dL_holds_239 : decode cL_holds 239 = .ok (.invokevirtual 23, 3) := by decide +kernel
theorem dL_holds_242 : decode cL_holds 242 = .ok (.iconst 2, 1) := by decide +kernel
theorem dL_holds_243 : decode cL_holds 243 = .ok (.if_icmp .ne 7, 3) := by decide +kernel
theorem dL_holds_246 : decode cL_holds 246 = .ok (.iconst 1, 1) := by decide +kernel
theorem dL_holds_247 : decode cL_holds 247 = .ok (.goto 4, 3) := by decide +kernel
theorem dL_holds_250 : decode cL_holds 250 = .ok (.iconst 0, 1) := by decide +kernel
theorem dL_holds_251 : decode cL_holds 251 = .ok (.if_icmp .ne 41, 3) := by decide +kernel
theorem dL_holds_254 : decode cL_holds 254 = .ok (.aload_n 0, 1) := by decide +kernel
theorem dL_holds_255 : decode cL_holds 255 = .ok (.iload 6, 2) := by decide +kernel
theorem dL_holds_257 : decode cL_holds 257 = .ok (.iconst 2, 1) := by decide +kernel
theorem dL_holds_258 : decode cL_holds 258 = .ok (.invokevirtual 23, 3) := by decide +kernel
theorem dL_holds_261 : decode cL_holds 261 = .ok (.ifCond .ne 7, 3) := by decide +kernel
theorem dL_holds_264 : decode cL_holds 264 = .ok (.iconst 1, 1) := by decide +kernel
theorem dL_holds_265 : decode cL_holds 265 = .ok (.goto 4, 3) := by decide +kernel
theorem dL_holds_268 : decode cL_holds 268 = .ok (.iconst 0, 1) := by decide +kernel
theorem dL_holds_269 : decode cL_holds 269 = .ok (.aload_n 0, 1) := by decide +kernel
theorem dL_holds_270 : decode cL_holds 270 = .ok (.iload 6, 2) := by decide +kernel
theorem dL_holds_272 : decode cL_holds 272 = .ok (.iconst 3, 1) := by decide +kernel
theorem dL_holds_273 : decode cL_holds 273 = .ok (.invokevirtual 23, 3) := by decide +kernel
theorem dL_holds_276 : decode cL_holds 276 = .ok (.iconst 1, 1) := by decide +kernel
theorem dL_holds_277 : decode cL_holds 277 = .ok (.if_icmp .ne 7, 3) := by decide +kernel
theorem dL_holds_280 : decode cL_holds 280 = .ok (.iconst 1, 1) := by decide +kernel
theorem dL_holds_281 : decode cL_holds 281 = .ok (.goto 4, 3) := by decide +kernel
theorem dL_holds_284 : decode cL_holds 284 = .ok (.iconst 0, 1) := by decide +kernel
theorem dL_holds_285 : decode cL_holds 285 = .ok (.if_icmp .ne 7, 3) := by decide +kernel
theorem dL_holds_288 : decode cL_holds 288 = .ok (.iconst 1, 1) := by decide +kernel
theorem dL_holds_289 : decode cL_holds 289 = .ok (.goto 4, 3) := by decide +kernel
theorem dL_holds_292 : decode cL_holds 292 = .ok (.iconst 0, 1) := by decide +kernel
theorem dL_holds_293 : decode cL_holds 293 = .ok (.istore 14, 2) := by decide +kernel
theorem dL_holds_295 : decode cL_holds 295 = .ok (.iload 14, 2) := by decide +kernel
theorem dL_holds_297 : decode cL_holds 297 = .ok (.ifCond .eq 74, 3) := by decide +kernel
theorem dL_holds_300 : decode cL_holds 300 = .ok (.iload 8, 2) := by decide +kernel
theorem dL_holds_302 : decode cL_holds 302 = .ok (.ifCond .lt 16, 3) := by decide +kernel
theorem dL_holds_305 : decode cL_holds 305 = .ok (.aload_n 0, 1) := by decide +kernel
theorem dL_holds_306 : decode cL_holds 306 = .ok (.iload 8, 2) := by decide +kernel
theorem dL_holds_308 : decode cL_holds 308 = .ok (.iload 9, 2) := by decide +kernel
theorem dL_holds_310 : decode cL_holds 310 = .ok (.iconst 3, 1) := by decide +kernel
theorem dL_holds_311 : decode cL_holds 311 = .ok (.invokevirtual 28, 3) := by decide +kernel
theorem dL_holds_314 : decode cL_holds 314 = .ok (.iconst 2, 1) := by decide +kernel
theorem dL_holds_315 : decode cL_holds 315 = .ok (.if_icmp .ne 56, 3) := by decide +kernel
theorem dL_holds_318 : decode cL_holds 318 = .ok (.aload_n 0, 1) := by decide +kernel
theorem dL_holds_319 : decode cL_holds 319 = .ok (.iload 6, 2) := by decide +kernel
theorem dL_holds_321 : decode cL_holds 321 = .ok (.iconst 0, 1) := by decide +kernel
theorem dL_holds_322 : decode cL_holds 322 = .ok (.iconst 3, 1) := by decide +kernel
theorem dL_holds_323 : decode cL_holds 323 = .ok (.invokevirtual 28, 3) := by decide +kernel
theorem dL_holds_326 : decode cL_holds 326 = .ok (.ifCond .ne 45, 3) := by decide +kernel
theorem dL_holds_329 : decode cL_holds 329 = .ok (.aload_n 0, 1) := by decide +kernel
theorem dL_holds_330 : decode cL_holds 330 = .ok (.iload 12, 2) := by decide +kernel
theorem dL_holds_332 : decode cL_holds 332 = .ok (.iload 13, 2) := by decide +kernel
theorem dL_holds_334 : decode cL_holds 334 = .ok (.iconst 2, 1) := by decide +kernel
theorem dL_holds_335 : decode cL_holds 335 = .ok (.invokevirtual 42, 3) := by decide +kernel
theorem dL_holds_338 : decode cL_holds 338 = .ok (.iconst 1, 1) := by decide +kernel
theorem dL_holds_339 : decode cL_holds 339 = .ok (.if_icmp .ne 32, 3) := by decide +kernel
theorem dL_holds_342 : decode cL_holds 342 = .ok (.aload_n 0, 1) := by decide +kernel
theorem dL_holds_343 : decode cL_holds 343 = .ok (.iload 12, 2) := by decide +kernel
theorem dL_holds_345 : decode cL_holds 345 = .ok (.iload 13, 2) := by decide +kernel
theorem dL_holds_347 : decode cL_holds 347 = .ok (.iconst 0, 1) := by decide +kernel
theorem dL_holds_348 : decode cL_holds 348 = .ok (.invokevirtual 42, 3) := by decide +kernel
theorem dL_holds_351 : decode cL_holds 351 = .ok (.iload 12, 2) := by decide +kernel
theorem dL_holds_353 : decode cL_holds 353 = .ok (.if_icmp .ne 18, 3) := by decide +kernel
theorem dL_holds_356 : decode cL_holds 356 = .ok (.aload_n 0, 1) := by decide +kernel
theorem dL_holds_357 : decode cL_holds 357 = .ok (.iload 6, 2) := by decide +kernel
theorem dL_holds_359 : decode cL_holds 359 = .ok (.iload 12, 2) := by decide +kernel
theorem dL_holds_361 : decode cL_holds 361 = .ok (.iload 13, 2) := by decide +kernel
theorem dL_holds_363 : decode cL_holds 363 = .ok (.invokevirtual 45, 3) := by decide +kernel
theorem dL_holds_366 : decode cL_holds 366 = .ok (.iload 11, 2) := by decide +kernel
theorem dL_holds_368 : decode cL_holds 368 = .ok (.if_icmp .le 5, 3) := by decide +kernel
theorem dL_holds_371 : decode cL_holds 371 = .ok (.iconst 0, 1) := by decide +kernel
theorem dL_holds_372 : decode cL_holds 372 = .ok (.ireturn, 1) := by decide +kernel
theorem dL_holds_373 : decode cL_holds 373 = .ok (.iinc 6 1, 3) := by decide +kernel
theorem dL_holds_376 : decode cL_holds 376 = .ok (.goto (-359), 3) := by decide +kernel
theorem dL_holds_379 : decode cL_holds 379 = .ok (.iload_n 3, 1) := by decide +kernel
theorem dL_holds_380 : decode cL_holds 380 = .ok (.aload_n 0, 1) := by decide +kernel
theorem dL_holds_381 : decode cL_holds 381 = .ok (.iconst 2, 1) := by decide +kernel
theorem dL_holds_382 : decode cL_holds 382 = .ok (.invokevirtual 13, 3) := by decide +kernel
theorem dL_holds_385 : decode cL_holds 385 = .ok (.if_icmp .ne 27, 3) := by decide +kernel
theorem dL_holds_388 : decode cL_holds 388 = .ok (.iload 4, 2) := by decide +kernel
theorem dL_holds_390 : decode cL_holds 390 = .ok (.aload_n 0, 1) := by decide +kernel
theorem dL_holds_391 : decode cL_holds 391 = .ok (.iconst 3, 1) := by decide +kernel
theorem dL_holds_392 : decode cL_holds 392 = .ok (.invokevirtual 13, 3) := by decide +kernel
theorem dL_holds_395 : decode cL_holds 395 = .ok (.if_icmp .ne 17, 3) := by decide +kernel
theorem dL_holds_398 : decode cL_holds 398 = .ok (.iload 5, 2) := by decide +kernel
theorem dL_holds_400 : decode cL_holds 400 = .ok (.aload_n 0, 1) := by decide +kernel
theorem dL_holds_401 : decode cL_holds 401 = .ok (.iconst 4, 1) := by decide +kernel
theorem dL_holds_402 : decode cL_holds 402 = .ok (.invokevirtual 13, 3) := by decide +kernel
theorem dL_holds_405 : decode cL_holds 405 = .ok (.if_icmp .ne 7, 3) := by decide +kernel
theorem dL_holds_408 : decode cL_holds 408 = .ok (.iconst 1, 1) := by decide +kernel
theorem dL_holds_409 : decode cL_holds 409 = .ok (.goto 4, 3) := by decide +kernel
theorem dL_holds_412 : decode cL_holds 412 = .ok (.iconst 0, 1) := by decide +kernel
theorem dL_holds_413 : decode cL_holds 413 = .ok (.ireturn, 1) := by decide +kernel
theorem dL_types_0 : decode cL_types 0 = .ok (.iconst 1, 1) := by decide +kernel
theorem dL_types_1 : decode cL_types 1 = .ok (.iload_n 1, 1) := by decide +kernel
theorem dL_types_2 : decode cL_types 2 = .ok (.iconst 4, 1) := by decide +kernel
theorem dL_types_3 : decode cL_types 3 = .ok (.invokestatic 36, 3) := by decide +kernel
theorem dL_types_6 : decode cL_types 6 = .ok (.iadd, 1) := by decide +kernel
theorem dL_types_7 : decode cL_types 7 = .ok (.istore_n 2, 1) := by decide +kernel
theorem dL_types_8 : decode cL_types 8 = .ok (.aload_n 0, 1) := by decide +kernel
theorem dL_types_9 : decode cL_types 9 = .ok (.invokevirtual 48, 3) := by decide +kernel
theorem dL_types_12 : decode cL_types 12 = .ok (.ifCond .lt 7, 3) := by decide +kernel
theorem dL_types_15 : decode cL_types 15 = .ok (.iconst 1, 1) := by decide +kernel
theorem dL_types_16 : decode cL_types 16 = .ok (.goto 4, 3) := by decide +kernel
theorem dL_types_19 : decode cL_types 19 = .ok (.iconst 0, 1) := by decide +kernel
theorem dL_types_20 : decode cL_types 20 = .ok (.istore_n 3, 1) := by decide +kernel
theorem dL_types_21 : decode cL_types 21 = .ok (.iconst 0, 1) := by decide +kernel
theorem dL_types_22 : decode cL_types 22 = .ok (.istore 4, 2) := by decide +kernel
theorem dL_types_24 : decode cL_types 24 = .ok (.iload 4, 2) := by decide +kernel
theorem dL_types_26 : decode cL_types 26 = .ok (.iload_n 2, 1) := by decide +kernel
theorem dL_types_27 : decode cL_types 27 = .ok (.if_icmp .ge 193, 3) := by decide +kernel
theorem dL_types_30 : decode cL_types 30 = .ok (.iload_n 1, 1) := by decide +kernel
theorem dL_types_31 : decode cL_types 31 = .ok (.iconst 2, 1) := by decide +kernel
theorem dL_types_32 : decode cL_types 32 = .ok (.bipush 6, 2) := by decide +kernel
theorem dL_types_34 : decode cL_types 34 = .ok (.iload 4, 2) := by decide +kernel
theorem dL_types_36 : decode cL_types 36 = .ok (.imul, 1) := by decide +kernel
theorem dL_types_37 : decode cL_types 37 = .ok (.iadd, 1) := by decide +kernel
theorem dL_types_38 : decode cL_types 38 = .ok (.ishr, 1) := by decide +kernel
theorem dL_types_39 : decode cL_types 39 = .ok (.istore 5, 2) := by decide +kernel
theorem dL_types_41 : decode cL_types 41 = .ok (.iload_n 3, 1) := by decide +kernel
theorem dL_types_42 : decode cL_types 42 = .ok (.ifCond .eq 54, 3) := by decide +kernel
theorem dL_types_45 : decode cL_types 45 = .ok (.iload 4, 2) := by decide +kernel
theorem dL_types_47 : decode cL_types 47 = .ok (.ifCond .ne 12, 3) := by decide +kernel
theorem dL_types_50 : decode cL_types 50 = .ok (.iload 5, 2) := by decide +kernel
theorem dL_types_52 : decode cL_types 52 = .ok (.iconst 2, 1) := by decide +kernel
theorem dL_types_53 : decode cL_types 53 = .ok (.invokestatic 36, 3) := by decide +kernel
theorem dL_types_56 : decode cL_types 56 = .ok (.ifCond .eq 36, 3) := by decide +kernel
theorem dL_types_59 : decode cL_types 59 = .ok (.aload_n 0, 1) := by decide +kernel
theorem dL_types_60 : decode cL_types 60 = .ok (.iload 5, 2) := by decide +kernel
theorem dL_types_62 : decode cL_types 62 = .ok (.iconst 3, 1) := by decide +kernel
theorem dL_types_63 : decode cL_types 63 = .ok (.invokestatic 36, 3) := by decide +kernel
theorem dL_types_66 : decode cL_types 66 = .ok (.ifCond .ne 8, 3) := by decide +kernel
theorem dL_types_69 : decode cL_types 69 = .ok (.bipush 45, 2) := by decide +kernel
theorem dL_types_71 : decode cL_types 71 = .ok (.goto 15, 3) := by decide +kernel
theorem dL_types_74 : decode cL_types 74 = .ok (.iload 4, 2) := by decide +kernel
theorem dL_types_76 : decode cL_types 76 = .ok (.ifCond .ne 8, 3) := by decide +kernel
theorem dL_types_79 : decode cL_types 79 = .ok (.bipush 45, 2) := by decide +kernel
theorem dL_types_81 : decode cL_types 81 = .ok (.goto 5, 3) := by decide +kernel
theorem dL_types_84 : decode cL_types 84 = .ok (.bipush 43, 2) := by decide +kernel
theorem dL_types_86 : decode cL_types 86 = .ok (.invokevirtual 52, 3) := by decide +kernel
theorem dL_types_89 : decode cL_types 89 = .ok (.ifCond .le 7, 3) := by decide +kernel
theorem dL_types_92 : decode cL_types 92 = .ok (.iconst 1, 1) := by decide +kernel
theorem dL_types_93 : decode cL_types 93 = .ok (.goto 4, 3) := by decide +kernel
theorem dL_types_96 : decode cL_types 96 = .ok (.iconst 0, 1) := by decide +kernel
theorem dL_types_97 : decode cL_types 97 = .ok (.istore_n 3, 1) := by decide +kernel
theorem dL_types_98 : decode cL_types 98 = .ok (.iload_n 3, 1) := by decide +kernel
theorem dL_types_99 : decode cL_types 99 = .ok (.ifCond .eq 53, 3) := by decide +kernel
theorem dL_types_102 : decode cL_types 102 = .ok (.iload 5, 2) := by decide +kernel
theorem dL_types_104 : decode cL_types 104 = .ok (.iconst 1, 1) := by decide +kernel
theorem dL_types_105 : decode cL_types 105 = .ok (.ishr, 1) := by decide +kernel
theorem dL_types_106 : decode cL_types 106 = .ok (.iconst 3, 1) := by decide +kernel
theorem dL_types_107 : decode cL_types 107 = .ok (.invokestatic 36, 3) := by decide +kernel
theorem dL_types_110 : decode cL_types 110 = .ok (.ifCond .eq 38, 3) := by decide +kernel
theorem dL_types_113 : decode cL_types 113 = .ok (.aload_n 0, 1) := by decide +kernel
theorem dL_types_114 : decode cL_types 114 = .ok (.bipush 49, 2) := by decide +kernel
theorem dL_types_116 : decode cL_types 116 = .ok (.iload 5, 2) := by decide +kernel
theorem dL_types_118 : decode cL_types 118 = .ok (.iconst 2, 1) := by decide +kernel
theorem dL_types_119 : decode cL_types 119 = .ok (.ishr, 1) := by decide +kernel
theorem dL_types_120 : decode cL_types 120 = .ok (.iload_n 1, 1) := by decide +kernel
theorem dL_types_121 : decode cL_types 121 = .ok (.bipush 25, 2) := by decide +kernel
theorem dL_types_123 : decode cL_types 123 = .ok (.ishr, 1) := by decide +kernel
theorem dL_types_124 : decode cL_types 124 = .ok (.bipush 9, 2) := by decide +kernel
theorem dL_types_126 : decode cL_types 126 = .ok (.invokestatic 36, 3) := by decide +kernel
theorem dL_types_129 : decode cL_types 129 = .ok (.ifCond .ne 8, 3) := by decide +kernel
theorem dL_types_132 : decode cL_types 132 = .ok (.bipush 6, 2) := by decide +kernel
theorem dL_types_134 : decode cL_types 134 = .ok (.goto 4, 3) := by decide +kernel
theorem dL_types_137 : decode cL_types 137 = .ok (.iconst 5, 1) := by decide +kernel
theorem dL_types_138 : decode cL_types 138 = .ok (.invokestatic 36, 3) := by decide +kernel
theorem dL_types_141 : decode cL_types 141 = .ok (.iadd, 1) := by decide +kernel
theorem dL_types_142 : decode cL_types 142 = .ok (.invokevirtual 52, 3) := by decide +kernel
theorem dL_types_145 : decode cL_types 145 = .ok (.ifCond .le 7, 3) := by decide +kernel
theorem dL_types_148 : decode cL_types 148 = .ok (.iconst 1, 1) := by decide +kernel
theorem dL_types_149 : decode cL_types 149 = .ok (.goto 4, 3) := by decide +kernel
theorem dL_types_152 : decode cL_types 152 = .ok (.iconst 0, 1) := by decide +kernel
theorem dL_types_153 : decode cL_types 153 = .ok (.istore_n 3, 1) := by decide +kernel
theorem dL_types_154 : decode cL_types 154 = .ok (.iconst 0, 1) := by decide +kernel
theorem dL_types_155 : decode cL_types 155 = .ok (.istore 6, 2) := by decide +kernel
theorem dL_types_157 : decode cL_types 157 = .ok (.iload 6, 2) := by decide +kernel
theorem dL_types_159 : decode cL_types 159 = .ok (.iconst 1, 1) := by decide +kernel
theorem dL_types_160 : decode cL_types 160 = .ok (.iload 5, 2) := by decide +kernel
theorem dL_types_162 : decode cL_types 162 = .ok (.iconst 3, 1) := by decide +kernel
theorem dL_types_163 : decode cL_types 163 = .ok (.ishr, 1) := by decide +kernel
theorem dL_types_164 : decode cL_types 164 = .ok (.iconst 3, 1) := by decide +kernel
theorem dL_types_165 : decode cL_types 165 = .ok (.invokestatic 36, 3) := by decide +kernel
theorem dL_types_168 : decode cL_types 168 = .ok (.iadd, 1) := by decide +kernel
theorem dL_types_169 : decode cL_types 169 = .ok (.if_icmp .ge 45, 3) := by decide +kernel
theorem dL_types_172 : decode cL_types 172 = .ok (.iload_n 3, 1) := by decide +kernel
theorem dL_types_173 : decode cL_types 173 = .ok (.ifCond .eq 33, 3) := by decide +kernel
theorem dL_types_176 : decode cL_types 176 = .ok (.aload_n 0, 1) := by decide +kernel
theorem dL_types_177 : decode cL_types 177 = .ok (.iload 5, 2) := by decide +kernel
theorem dL_types_179 : decode cL_types 179 = .ok (.iload 6, 2) := by decide +kernel
theorem dL_types_181 : decode cL_types 181 = .ok (.ishr, 1) := by decide +kernel
theorem dL_types_182 : decode cL_types 182 = .ok (.iconst 2, 1) := by decide +kernel
theorem dL_types_183 : decode cL_types 183 = .ok (.invokestatic 36, 3) := by decide +kernel
theorem dL_types_186 : decode cL_types 186 = .ok (.ifCond .ne 8, 3) := by decide +kernel
theorem dL_types_189 : decode cL_types 189 = .ok (.bipush 120, 2) := by decide +kernel
theorem dL_types_191 : decode cL_types 191 = .ok (.goto 5, 3) := by decide +kernel
theorem dL_types_194 : decode cL_types 194 = .ok (.bipush 121, 2) := by decide +kernel
theorem dL_types_196 : decode cL_types 196 = .ok (.invokevirtual 52, 3) := by decide +kernel
theorem dL_types_199 : decode cL_types 199 = .ok (.ifCond .le 7, 3) := by decide +kernel
theorem dL_types_202 : decode cL_types 202 = .ok (.iconst 1, 1) := by decide +kernel
theorem dL_types_203 : decode cL_types 203 = .ok (.goto 4, 3) := by decide +kernel
theorem dL_types_206 : decode cL_types 206 = .ok (.iconst 0, 1) := by decide +kernel
theorem dL_types_207 : decode cL_types 207 = .ok (.istore_n 3, 1) := by decide +kernel
theorem dL_types_208 : decode cL_types 208 = .ok (.iinc 6 1, 3) := by decide +kernel
theorem dL_types_211 : decode cL_types 211 = .ok (.goto (-54), 3) := by decide +kernel
theorem dL_types_214 : decode cL_types 214 = .ok (.iinc 4 1, 3) := by decide +kernel
theorem dL_types_217 : decode cL_types 217 = .ok (.goto (-193), 3) := by decide +kernel
theorem dL_types_220 : decode cL_types 220 = .ok (.iload_n 3, 1) := by decide +kernel
theorem dL_types_221 : decode cL_types 221 = .ok (.ifCond .eq 28, 3) := by decide +kernel
theorem dL_types_224 : decode cL_types 224 = .ok (.iload_n 1, 1) := by decide +kernel
theorem dL_types_225 : decode cL_types 225 = .ok (.bipush 22, 2) := by decide +kernel
theorem dL_types_227 : decode cL_types 227 = .ok (.ishr, 1) := by decide +kernel
theorem dL_types_228 : decode cL_types 228 = .ok (.bipush 8, 2) := by decide +kernel
theorem dL_types_230 : decode cL_types 230 = .ok (.invokestatic 36, 3) := by decide +kernel
theorem dL_types_233 : decode cL_types 233 = .ok (.ifCond .gt 12, 3) := by decide +kernel
theorem dL_types_236 : decode cL_types 236 = .ok (.aload_n 0, 1) := by decide +kernel
theorem dL_types_237 : decode cL_types 237 = .ok (.bipush 43, 2) := by decide +kernel
theorem dL_types_239 : decode cL_types 239 = .ok (.invokevirtual 52, 3) := by decide +kernel
theorem dL_types_242 : decode cL_types 242 = .ok (.ifCond .le 7, 3) := by decide +kernel
theorem dL_types_245 : decode cL_types 245 = .ok (.iconst 1, 1) := by decide +kernel
theorem dL_types_246 : decode cL_types 246 = .ok (.goto 4, 3) := by decide +kernel
theorem dL_types_249 : decode cL_types 249 = .ok (.iconst 0, 1) := by decide +kernel
theorem dL_types_250 : decode cL_types 250 = .ok (.ireturn, 1) := by decide +kernel
theorem dL_reads_0 : decode cL_reads 0 = .ok (.aload_n 0, 1) := by decide +kernel
theorem dL_reads_1 : decode cL_reads 1 = .ok (.iconst 0, 1) := by decide +kernel
theorem dL_reads_2 : decode cL_reads 2 = .ok (.invokevirtual 55, 3) := by decide +kernel
theorem dL_reads_5 : decode cL_reads 5 = .ok (.istore_n 1, 1) := by decide +kernel
theorem dL_reads_6 : decode cL_reads 6 = .ok (.aload_n 0, 1) := by decide +kernel
theorem dL_reads_7 : decode cL_reads 7 = .ok (.iconst 1, 1) := by decide +kernel
theorem dL_reads_8 : decode cL_reads 8 = .ok (.invokevirtual 55, 3) := by decide +kernel
theorem dL_reads_11 : decode cL_reads 11 = .ok (.istore_n 2, 1) := by decide +kernel
theorem dL_reads_12 : decode cL_reads 12 = .ok (.aload_n 0, 1) := by decide +kernel
theorem dL_reads_13 : decode cL_reads 13 = .ok (.bipush 6, 2) := by decide +kernel
theorem dL_reads_15 : decode cL_reads 15 = .ok (.invokevirtual 13, 3) := by decide +kernel
theorem dL_reads_18 : decode cL_reads 18 = .ok (.istore_n 3, 1) := by decide +kernel
theorem dL_reads_19 : decode cL_reads 19 = .ok (.aload_n 0, 1) := by decide +kernel
theorem dL_reads_20 : decode cL_reads 20 = .ok (.invokevirtual 58, 3) := by decide +kernel
theorem dL_reads_23 : decode cL_reads 23 = .ok (.istore 4, 2) := by decide +kernel
theorem dL_reads_25 : decode cL_reads 25 = .ok (.iload_n 1, 1) := by decide +kernel
theorem dL_reads_26 : decode cL_reads 26 = .ok (.ldc 41, 2) := by decide +kernel
theorem dL_reads_28 : decode cL_reads 28 = .ok (.if_icmp .ne 36, 3) := by decide +kernel
theorem dL_reads_31 : decode cL_reads 31 = .ok (.iload_n 2, 1) := by decide +kernel
theorem dL_reads_32 : decode cL_reads 32 = .ok (.ldc 41, 2) := by decide +kernel
theorem dL_reads_34 : decode cL_reads 34 = .ok (.if_icmp .ne 30, 3) := by decide +kernel
theorem dL_reads_37 : decode cL_reads 37 = .ok (.iload 4, 2) := by decide +kernel
theorem dL_reads_39 : decode cL_reads 39 = .ok (.ifCond .le 25, 3) := by decide +kernel
theorem dL_reads_42 : decode cL_reads 42 = .ok (.iload 4, 2) := by decide +kernel
theorem dL_reads_44 : decode cL_reads 44 = .ok (.aload_n 0, 1) := by decide +kernel
theorem dL_reads_45 : decode cL_reads 45 = .ok (.iconst 0, 1) := by decide +kernel
theorem dL_reads_46 : decode cL_reads 46 = .ok (.invokevirtual 13, 3) := by decide +kernel
theorem dL_reads_49 : decode cL_reads 49 = .ok (.if_icmp .ne 15, 3) := by decide +kernel
theorem dL_reads_52 : decode cL_reads 52 = .ok (.aload_n 0, 1) := by decide +kernel
theorem dL_reads_53 : decode cL_reads 53 = .ok (.iconst 1, 1) := by decide +kernel
theorem dL_reads_54 : decode cL_reads 54 = .ok (.invokevirtual 13, 3) := by decide +kernel
theorem dL_reads_57 : decode cL_reads 57 = .ok (.ifCond .ne 7, 3) := by decide +kernel
theorem dL_reads_60 : decode cL_reads 60 = .ok (.iconst 1, 1) := by decide +kernel
theorem dL_reads_61 : decode cL_reads 61 = .ok (.goto 4, 3) := by decide +kernel
theorem dL_reads_64 : decode cL_reads 64 = .ok (.iconst 0, 1) := by decide +kernel
theorem dL_reads_65 : decode cL_reads 65 = .ok (.istore 5, 2) := by decide +kernel
theorem dL_reads_67 : decode cL_reads 67 = .ok (.iload_n 1, 1) := by decide +kernel
theorem dL_reads_68 : decode cL_reads 68 = .ok (.ifCond .lt 28, 3) := by decide +kernel
theorem dL_reads_71 : decode cL_reads 71 = .ok (.iload_n 1, 1) := by decide +kernel
theorem dL_reads_72 : decode cL_reads 72 = .ok (.iload_n 3, 1) := by decide +kernel
theorem dL_reads_73 : decode cL_reads 73 = .ok (.if_icmp .gt 23, 3) := by decide +kernel
theorem dL_reads_76 : decode cL_reads 76 = .ok (.iload_n 2, 1) := by decide +kernel
theorem dL_reads_77 : decode cL_reads 77 = .ok (.ifCond .le 19, 3) := by decide +kernel
theorem dL_reads_80 : decode cL_reads 80 = .ok (.iload_n 2, 1) := by decide +kernel
theorem dL_reads_81 : decode cL_reads 81 = .ok (.iconst 4, 1) := by decide +kernel
theorem dL_reads_82 : decode cL_reads 82 = .ok (.if_icmp .ge 14, 3) := by decide +kernel
theorem dL_reads_85 : decode cL_reads 85 = .ok (.iload 4, 2) := by decide +kernel
theorem dL_reads_87 : decode cL_reads 87 = .ok (.ldc 61, 2) := by decide +kernel
theorem dL_reads_89 : decode cL_reads 89 = .ok (.if_icmp .ne 7, 3) := by decide +kernel
theorem dL_reads_92 : decode cL_reads 92 = .ok (.iconst 1, 1) := by decide +kernel
theorem dL_reads_93 : decode cL_reads 93 = .ok (.goto 4, 3) := by decide +kernel
theorem dL_reads_96 : decode cL_reads 96 = .ok (.iconst 0, 1) := by decide +kernel
theorem dL_reads_97 : decode cL_reads 97 = .ok (.istore 6, 2) := by decide +kernel
theorem dL_reads_99 : decode cL_reads 99 = .ok (.iload 5, 2) := by decide +kernel
theorem dL_reads_101 : decode cL_reads 101 = .ok (.ifCond .ne 8, 3) := by decide +kernel
theorem dL_reads_104 : decode cL_reads 104 = .ok (.iload 6, 2) := by decide +kernel
theorem dL_reads_106 : decode cL_reads 106 = .ok (.ifCond .eq 17, 3) := by decide +kernel
theorem dL_reads_109 : decode cL_reads 109 = .ok (.aload_n 0, 1) := by decide +kernel
theorem dL_reads_110 : decode cL_reads 110 = .ok (.bipush 6, 2) := by decide +kernel
theorem dL_reads_112 : decode cL_reads 112 = .ok (.invokevirtual 13, 3) := by decide +kernel
theorem dL_reads_115 : decode cL_reads 115 = .ok (.iload_n 3, 1) := by decide +kernel
theorem dL_reads_116 : decode cL_reads 116 = .ok (.if_icmp .ne 7, 3) := by decide +kernel
theorem dL_reads_119 : decode cL_reads 119 = .ok (.iconst 1, 1) := by decide +kernel
theorem dL_reads_120 : decode cL_reads 120 = .ok (.goto 4, 3) := by decide +kernel
theorem dL_reads_123 : decode cL_reads 123 = .ok (.iconst 0, 1) := by decide +kernel
theorem dL_reads_124 : decode cL_reads 124 = .ok (.ireturn, 1) := by decide +kernel
theorem dL_acts_0 : decode cL_acts 0 = .ok (.iload_n 1, 1) := by decide +kernel
theorem dL_acts_1 : decode cL_acts 1 = .ok (.bipush 20, 2) := by decide +kernel
theorem dL_acts_3 : decode cL_acts 3 = .ok (.invokestatic 36, 3) := by decide +kernel
theorem dL_acts_6 : decode cL_acts 6 = .ok (.istore_n 3, 1) := by decide +kernel
theorem dL_acts_7 : decode cL_acts 7 = .ok (.aload_n 0, 1) := by decide +kernel
theorem dL_acts_8 : decode cL_acts 8 = .ok (.iconst 1, 1) := by decide +kernel
theorem dL_acts_9 : decode cL_acts 9 = .ok (.invokevirtual 13, 3) := by decide +kernel
theorem dL_acts_12 : decode cL_acts 12 = .ok (.istore 4, 2) := by decide +kernel
theorem dL_acts_14 : decode cL_acts 14 = .ok (.iload_n 1, 1) := by decide +kernel
theorem dL_acts_15 : decode cL_acts 15 = .ok (.iconst 5, 1) := by decide +kernel
theorem dL_acts_16 : decode cL_acts 16 = .ok (.ishr, 1) := by decide +kernel
theorem dL_acts_17 : decode cL_acts 17 = .ok (.iload 4, 2) := by decide +kernel
theorem dL_acts_19 : decode cL_acts 19 = .ok (.iconst 1, 1) := by decide +kernel
theorem dL_acts_20 : decode cL_acts 20 = .ok (.iadd, 1) := by decide +kernel
theorem dL_acts_21 : decode cL_acts 21 = .ok (.invokestatic 36, 3) := by decide +kernel
theorem dL_acts_24 : decode cL_acts 24 = .ok (.istore 5, 2) := by decide +kernel
theorem dL_acts_26 : decode cL_acts 26 = .ok (.iload 5, 2) := by decide +kernel
theorem dL_acts_28 : decode cL_acts 28 = .ok (.iload 4, 2) := by decide +kernel
theorem dL_acts_30 : decode cL_acts 30 = .ok (.if_icmp .ge 7, 3) := by decide +kernel
theorem dL_acts_33 : decode cL_acts 33 = .ok (.iconst 1, 1) := by decide +kernel
theorem dL_acts_34 : decode cL_acts 34 = .ok (.goto 4, 3) := by decide +kernel
theorem dL_acts_37 : decode cL_acts 37 = .ok (.iconst 0, 1) := by decide +kernel
theorem dL_acts_38 : decode cL_acts 38 = .ok (.istore 6, 2) := by decide +kernel
theorem dL_acts_40 : decode cL_acts 40 = .ok (.iload_n 3, 1) := by decide +kernel
theorem dL_acts_41 : decode cL_acts 41 = .ok (.iconst 5, 1) := by decide +kernel
theorem dL_acts_42 : decode cL_acts 42 = .ok (.if_icmp .ge 190, 3) := by decide +kernel
theorem dL_acts_45 : decode cL_acts 45 = .ok (.iload_n 2, 1) := by decide +kernel
theorem dL_acts_46 : decode cL_acts 46 = .ok (.sipush 900, 3) := by decide +kernel
theorem dL_acts_49 : decode cL_acts 49 = .ok (.invokestatic 36, 3) := by decide +kernel
theorem dL_acts_52 : decode cL_acts 52 = .ok (.sipush 450, 3) := by decide +kernel
theorem dL_acts_55 : decode cL_acts 55 = .ok (.isub, 1) := by decide +kernel
theorem dL_acts_56 : decode cL_acts 56 = .ok (.istore 7, 2) := by decide +kernel
theorem dL_acts_58 : decode cL_acts 58 = .ok (.iload_n 2, 1) := by decide +kernel
theorem dL_acts_59 : decode cL_acts 59 = .ok (.bipush 10, 2) := by decide +kernel
theorem dL_acts_61 : decode cL_acts 61 = .ok (.ishr, 1) := by decide +kernel
theorem dL_acts_62 : decode cL_acts 62 = .ok (.sipush 900, 3) := by decide +kernel
theorem dL_acts_65 : decode cL_acts 65 = .ok (.invokestatic 36, 3) := by decide +kernel
theorem dL_acts_68 : decode cL_acts 68 = .ok (.sipush 450, 3) := by decide +kernel
theorem dL_acts_71 : decode cL_acts 71 = .ok (.isub, 1) := by decide +kernel
theorem dL_acts_72 : decode cL_acts 72 = .ok (.istore 8, 2) := by decide +kernel
theorem dL_acts_74 : decode cL_acts 74 = .ok (.iload_n 2, 1) := by decide +kernel
theorem dL_acts_75 : decode cL_acts 75 = .ok (.bipush 20, 2) := by decide +kernel
theorem dL_acts_77 : decode cL_acts 77 = .ok (.ishr, 1) := by decide +kernel
theorem dL_acts_78 : decode cL_acts 78 = .ok (.iconst 5, 1) := by decide +kernel
theorem dL_acts_79 : decode cL_acts 79 = .ok (.invokestatic 36, 3) := by decide +kernel
theorem dL_acts_82 : decode cL_acts 82 = .ok (.ifCond .ne 7, 3) := by decide +kernel
theorem dL_acts_85 : decode cL_acts 85 = .ok (.iconst 0, 1) := by decide +kernel
theorem dL_acts_86 : decode cL_acts 86 = .ok (.goto 19, 3) := by decide +kernel
theorem dL_acts_89 : decode cL_acts 89 = .ok (.iload_n 2, 1) := by decide +kernel
theorem dL_acts_90 : decode cL_acts 90 = .ok (.bipush 21, 2) := by decide +kernel
theorem dL_acts_92 : decode cL_acts 92 = .ok (.ishr, 1) := by decide +kernel
theorem dL_acts_93 : decode cL_acts 93 = .ok (.iconst 2, 1) := by decide +kernel
theorem dL_acts_94 : decode cL_acts 94 = .ok (.invokestatic 36, 3) := by decide +kernel
theorem dL_acts_97 : decode cL_acts 97 = .ok (.ifCond .ne 7, 3) := by decide +kernel
theorem dL_acts_100 : decode cL_acts 100 = .ok (.iconst 1, 1) := by decide +kernel
theorem dL_acts_101 : decode cL_acts 101 = .ok (.goto 4, 3) := by decide +kernel
theorem dL_acts_104 : decode cL_acts 104 = .ok (.iconst (-1), 1) := by decide +kernel
theorem dL_acts_105 : decode cL_acts 105 = .ok (.istore 9, 2) := by decide +kernel
theorem dL_acts_107 : decode cL_acts 107 = .ok (.aload_n 0, 1) := by decide +kernel
theorem dL_acts_108 : decode cL_acts 108 = .ok (.iload 7, 2) := by decide +kernel
theorem dL_acts_110 : decode cL_acts 110 = .ok (.iload 8, 2) := by decide +kernel
theorem dL_acts_112 : decode cL_acts 112 = .ok (.iconst 0, 1) := by decide +kernel
theorem dL_acts_113 : decode cL_acts 113 = .ok (.invokevirtual 42, 3) := by decide +kernel
theorem dL_acts_116 : decode cL_acts 116 = .ok (.ldc 41, 2) := by decide +kernel
theorem dL_acts_118 : decode cL_acts 118 = .ok (.if_icmp .eq 7, 3) := by decide +kernel
theorem dL_acts_121 : decode cL_acts 121 = .ok (.iconst 1, 1) := by decide +kernel
theorem dL_acts_122 : decode cL_acts 122 = .ok (.goto 4, 3) := by decide +kernel
theorem dL_acts_125 : decode cL_acts 125 = .ok (.iconst 0, 1) := by decide +kernel
theorem dL_acts_126 : decode cL_acts 126 = .ok (.istore 10, 2) := by decide +kernel
theorem dL_acts_128 : decode cL_acts 128 = .ok (.aload_n 0, 1) := by decide +kernel
theorem dL_acts_129 : decode cL_acts 129 = .ok (.iload 7, 2) := by decide +kernel
theorem dL_acts_131 : decode cL_acts 131 = .ok (.iload 8, 2) := by decide +kernel
theorem dL_acts_133 : decode cL_acts 133 = .ok (.iload 9, 2) := by decide +kernel
theorem dL_acts_135 : decode cL_acts 135 = .ok (.invokevirtual 62, 3) := by decide +kernel
theorem dL_acts_138 : decode cL_acts 138 = .ok (.istore 11, 2) := by decide +kernel
theorem dL_acts_140 : decode cL_acts 140 = .ok (.iload 11, 2) := by decide +kernel
theorem dL_acts_142 : decode cL_acts 142 = .ok (.iload 9, 2) := by decide +kernel
theorem dL_acts_144 : decode cL_acts 144 = .ok (.ifCond .ne 8, 3) := by decide +kernel
theorem dL_acts_147 : decode cL_acts 147 = .ok (.ldc 65, 2) := by decide +kernel
theorem dL_acts_149 : decode cL_acts 149 = .ok (.goto 26, 3) := by decide +kernel
theorem dL_acts_152 : decode cL_acts 152 = .ok (.iload 10, 2) := by decide +kernel
theorem dL_acts_154 : decode cL_acts 154 = .ok (.ifCond .ne 8, 3) := by decide +kernel
theorem dL_acts_157 : decode cL_acts 157 = .ok (.ldc 61, 2) := by decide +kernel
theorem dL_acts_159 : decode cL_acts 159 = .ok (.goto 16, 3) := by decide +kernel
theorem dL_acts_162 : decode cL_acts 162 = .ok (.iload 4, 2) := by decide +kernel
theorem dL_acts_164 : decode cL_acts 164 = .ok (.iconst 5, 1) := by decide +kernel
theorem dL_acts_165 : decode cL_acts 165 = .ok (.if_icmp .ne 8, 3) := by decide +kernel
theorem dL_acts_168 : decode cL_acts 168 = .ok (.ldc 66, 2) := by decide +kernel
theorem dL_acts_170 : decode cL_acts 170 = .ok (.goto 5, 3) := by decide +kernel
theorem dL_acts_173 : decode cL_acts 173 = .ok (.iload 4, 2) := by decide +kernel
theorem dL_acts_175 : decode cL_acts 175 = .ok (.if_icmp .ne 55, 3) := by decide +kernel
theorem dL_acts_178 : decode cL_acts 178 = .ok (.iload 11, 2) := by decide +kernel
theorem dL_acts_180 : decode cL_acts 180 = .ok (.ifCond .lt 46, 3) := by decide +kernel
theorem dL_acts_183 : decode cL_acts 183 = .ok (.aload_n 0, 1) := by decide +kernel
theorem dL_acts_184 : decode cL_acts 184 = .ok (.iload 11, 2) := by decide +kernel
theorem dL_acts_186 : decode cL_acts 186 = .ok (.iconst 0, 1) := by decide +kernel
theorem dL_acts_187 : decode cL_acts 187 = .ok (.invokevirtual 23, 3) := by decide +kernel
theorem dL_acts_190 : decode cL_acts 190 = .ok (.iconst 1, 1) := by decide +kernel
theorem dL_acts_191 : decode cL_acts 191 = .ok (.if_icmp .ne 39, 3) := by decide +kernel
theorem dL_acts_194 : decode cL_acts 194 = .ok (.aload_n 0, 1) := by decide +kernel
theorem dL_acts_195 : decode cL_acts 195 = .ok (.iload 11, 2) := by decide +kernel
theorem dL_acts_197 : decode cL_acts 197 = .ok (.iconst 1, 1) := by decide +kernel
theorem dL_acts_198 : decode cL_acts 198 = .ok (.invokevirtual 23, 3) := by decide +kernel
theorem dL_acts_201 : decode cL_acts 201 = .ok (.iload 9, 2) := by decide +kernel
theorem dL_acts_203 : decode cL_acts 203 = .ok (.if_icmp .ne 27, 3) := by decide +kernel
theorem dL_acts_206 : decode cL_acts 206 = .ok (.aload_n 0, 1) := by decide +kernel
theorem dL_acts_207 : decode cL_acts 207 = .ok (.iload 11, 2) := by decide +kernel
theorem dL_acts_209 : decode cL_acts 209 = .ok (.iconst 0, 1) := by decide +kernel
theorem dL_acts_210 : decode cL_acts 210 = .ok (.iconst 0, 1) := by decide +kernel
theorem dL_acts_211 : decode cL_acts 211 = .ok (.invokevirtual 28, 3) := by decide +kernel
theorem dL_acts_214 : decode cL_acts 214 = .ok (.aload_n 0, 1) := by decide +kernel
theorem dL_acts_215 : decode cL_acts 215 = .ok (.iload 7, 2) := by decide +kernel
theorem dL_acts_217 : decode cL_acts 217 = .ok (.iload 8, 2) := by decide +kernel
theorem dL_acts_219 : decode cL_acts 219 = .ok (.iconst 0, 1) := by decide +kernel
theorem dL_acts_220 : decode cL_acts 220 = .ok (.invokevirtual 42, 3) := by decide +kernel
theorem dL_acts_223 : decode cL_acts 223 = .ok (.if_icmp .ne 7, 3) := by decide +kernel
theorem dL_acts_226 : decode cL_acts 226 = .ok (.iconst 1, 1) := by decide +kernel
theorem dL_acts_227 : decode cL_acts 227 = .ok (.goto 4, 3) := by decide +kernel
theorem dL_acts_230 : decode cL_acts 230 = .ok (.iconst 0, 1) := by decide +kernel
theorem dL_acts_231 : decode cL_acts 231 = .ok (.ireturn, 1) := by decide +kernel
theorem dL_acts_232 : decode cL_acts 232 = .ok (.iload_n 3, 1) := by decide +kernel
theorem dL_acts_233 : decode cL_acts 233 = .ok (.bipush 12, 2) := by decide +kernel
theorem dL_acts_235 : decode cL_acts 235 = .ok (.if_icmp .ge 182, 3) := by decide +kernel
theorem dL_acts_238 : decode cL_acts 238 = .ok (.iload_n 2, 1) := by decide +kernel
theorem dL_acts_239 : decode cL_acts 239 = .ok (.bipush 12, 2) := by decide +kernel
theorem dL_acts_241 : decode cL_acts 241 = .ok (.invokestatic 36, 3) := by decide +kernel
theorem dL_acts_244 : decode cL_acts 244 = .ok (.ifCond .ne 14, 3) := by decide +kernel
theorem dL_acts_247 : decode cL_acts 247 = .ok (.iload_n 2, 1) := by decide +kernel
theorem dL_acts_248 : decode cL_acts 248 = .ok (.iconst 4, 1) := by decide +kernel
theorem dL_acts_249 : decode cL_acts 249 = .ok (.ishr, 1) := by decide +kernel
theorem dL_acts_250 : decode cL_acts 250 = .ok (.bipush 42, 2) := by decide +kernel
theorem dL_acts_252 : decode cL_acts 252 = .ok (.invokestatic 36, 3) := by decide +kernel
theorem dL_acts_255 : decode cL_acts 255 = .ok (.goto 12, 3) := by decide +kernel
theorem dL_acts_258 : decode cL_acts 258 = .ok (.iconst 1, 1) := by decide +kernel
theorem dL_acts_259 : decode cL_acts 259 = .ok (.iload_n 2, 1) := by decide +kernel
theorem dL_acts_260 : decode cL_acts 260 = .ok (.iconst 4, 1) := by decide +kernel
theorem dL_acts_261 : decode cL_acts 261 = .ok (.ishr, 1) := by decide +kernel
theorem dL_acts_262 : decode cL_acts 262 = .ok (.iconst 5, 1) := by decide +kernel
theorem dL_acts_263 : decode cL_acts 263 = .ok (.invokestatic 36, 3) := by decide +kernel
theorem dL_acts_266 : decode cL_acts 266 = .ok (.iadd, 1) := by decide +kernel
theorem dL_acts_267 : decode cL_acts 267 = .ok (.istore 7, 2) := by decide +kernel
theorem dL_acts_269 : decode cL_acts 269 = .ok (.iload 6, 2) := by decide +kernel
theorem dL_acts_271 : decode cL_acts 271 = .ok (.ifCond .eq 13, 3) := by decide +kernel
theorem dL_acts_274 : decode cL_acts 274 = .ok (.aload_n 0, 1) := by decide +kernel
theorem dL_acts_275 : decode cL_acts 275 = .ok (.iload 5, 2) := by decide +kernel
theorem dL_acts_277 : decode cL_acts 277 = .ok (.iconst 0, 1) := by decide +kernel
theorem dL_acts_278 : decode cL_acts 278 = .ok (.invokevirtual 23, 3) := by decide +kernel
theorem dL_acts_281 : decode cL_acts 281 = .ok (.goto 4, 3) := by decide +kernel
theorem dL_acts_284 : decode cL_acts 284 = .ok (.iconst 0, 1) := by decide +kernel
theorem dL_acts_285 : decode cL_acts 285 = .ok (.istore 8, 2) := by decide +kernel
theorem dL_acts_287 : decode cL_acts 287 = .ok (.iload 6, 2) := by decide +kernel
theorem dL_acts_289 : decode cL_acts 289 = .ok (.ifCond .eq 13, 3) := by decide +kernel
theorem dL_acts_292 : decode cL_acts 292 = .ok (.aload_n 0, 1) := by decide +kernel
theorem dL_acts_293 : decode cL_acts 293 = .ok (.iload 5, 2) := by decide +kernel
theorem dL_acts_295 : decode cL_acts 295 = .ok (.iconst 3, 1) := by decide +kernel
theorem dL_acts_296 : decode cL_acts 296 = .ok (.invokevirtual 23, 3) := by decide +kernel
theorem dL_acts_299 : decode cL_acts 299 = .ok (.goto 4, 3) := by decide +kernel
theorem dL_acts_302 : decode cL_acts 302 = .ok (.iconst 0, 1) := by decide +kernel
theorem dL_acts_303 : decode cL_acts 303 = .ok (.istore 9, 2) := by decide +kernel
theorem dL_acts_305 : decode cL_acts 305 = .ok (.aload_n 0, 1) := by decide +kernel
theorem dL_acts_306 : decode cL_acts 306 = .ok (.iload 5, 2) := by decide +kernel
theorem dL_acts_308 : decode cL_acts 308 = .ok (.iload 7, 2) := by decide +kernel
theorem dL_acts_310 : decode cL_acts 310 = .ok (.invokevirtual 67, 3) := by decide +kernel
theorem dL_acts_313 : decode cL_acts 313 = .ok (.istore 10, 2) := by decide +kernel
theorem dL_acts_315 : decode cL_acts 315 = .ok (.iload 6, 2) := by decide +kernel
theorem dL_acts_317 : decode cL_acts 317 = .ok (.ifCond .eq 15, 3) := by decide +kernel
theorem dL_acts_320 : decode cL_acts 320 = .ok (.iload 7, 2) := by decide +kernel
theorem dL_acts_322 : decode cL_acts 322 = .ok (.ifCond .eq 10, 3) := by decide +kernel
theorem dL_acts_325 : decode cL_acts 325 = .ok (.iload 7, 2) := by decide +kernel
theorem dL_acts_327 : decode cL_acts 327 = .ok (.bipush 41, 2) := by decide +kernel
theorem dL_acts_329 : decode cL_acts 329 = .ok (.if_icmp .ne 18, 3) := by decide +kernel
theorem dL_acts_332 : decode cL_acts 332 = .ok (.iload 10, 2) := by decide +kernel
theorem dL_acts_334 : decode cL_acts 334 = .ok (.ldc 65, 2) := by decide +kernel
theorem dL_acts_336 : decode cL_acts 336 = .ok (.if_icmp .ne 7, 3) := by decide +kernel
theorem dL_acts_339 : decode cL_acts 339 = .ok (.iconst 1, 1) := by decide +kernel
theorem dL_acts_340 : decode cL_acts 340 = .ok (.goto 76, 3) := by decide +kernel
theorem dL_acts_343 : decode cL_acts 343 = .ok (.iconst 0, 1) := by decide +kernel
theorem dL_acts_344 : decode cL_acts 344 = .ok (.goto 72, 3) := by decide +kernel
theorem dL_acts_347 : decode cL_acts 347 = .ok (.iload 9, 2) := by decide +kernel
theorem dL_acts_349 : decode cL_acts 349 = .ok (.ifCond .le 18, 3) := by decide +kernel
theorem dL_acts_352 : decode cL_acts 352 = .ok (.iload 10, 2) := by decide +kernel
theorem dL_acts_354 : decode cL_acts 354 = .ok (.ldc 61, 2) := by decide +kernel
theorem dL_acts_356 : decode cL_acts 356 = .ok (.if_icmp .ne 7, 3) := by decide +kernel
theorem dL_acts_359 : decode cL_acts 359 = .ok (.iconst 1, 1) := by decide +kernel
theorem dL_acts_360 : decode cL_acts 360 = .ok (.goto 56, 3) := by decide +kernel
theorem dL_acts_363 : decode cL_acts 363 = .ok (.iconst 0, 1) := by decide +kernel
theorem dL_acts_364 : decode cL_acts 364 = .ok (.goto 52, 3) := by decide +kernel
theorem dL_acts_367 : decode cL_acts 367 = .ok (.iload 10, 2) := by decide +kernel
theorem dL_acts_369 : decode cL_acts 369 = .ok (.ifCond .lt 46, 3) := by decide +kernel
theorem dL_acts_372 : decode cL_acts 372 = .ok (.iload 10, 2) := by decide +kernel
theorem dL_acts_374 : decode cL_acts 374 = .ok (.iload 7, 2) := by decide +kernel
theorem dL_acts_376 : decode cL_acts 376 = .ok (.if_icmp .gt 39, 3) := by decide +kernel
theorem dL_acts_379 : decode cL_acts 379 = .ok (.aload_n 0, 1) := by decide +kernel
theorem dL_acts_380 : decode cL_acts 380 = .ok (.iload 5, 2) := by decide +kernel
theorem dL_acts_382 : decode cL_acts 382 = .ok (.iconst 0, 1) := by decide +kernel
theorem dL_acts_383 : decode cL_acts 383 = .ok (.invokevirtual 23, 3) := by decide +kernel
theorem dL_acts_386 : decode cL_acts 386 = .ok (.iload 8, 2) := by decide +kernel
theorem dL_acts_388 : decode cL_acts 388 = .ok (.iload 10, 2) := by decide +kernel
theorem dL_acts_390 : decode cL_acts 390 = .ok (.iadd, 1) := by decide +kernel
theorem dL_acts_391 : decode cL_acts 391 = .ok (.if_icmp .ne 24, 3) := by decide +kernel
theorem dL_acts_394 : decode cL_acts 394 = .ok (.iload 10, 2) := by decide +kernel
theorem dL_acts_396 : decode cL_acts 396 = .ok (.iload 7, 2) := by decide +kernel
theorem dL_acts_398 : decode cL_acts 398 = .ok (.if_icmp .eq 13, 3) := by decide +kernel
theorem dL_acts_401 : decode cL_acts 401 = .ok (.aload_n 0, 1) := by decide +kernel
theorem dL_acts_402 : decode cL_acts 402 = .ok (.iload 5, 2) := by decide +kernel
theorem dL_acts_404 : decode cL_acts 404 = .ok (.iconst 3, 1) := by decide +kernel
theorem dL_acts_405 : decode cL_acts 405 = .ok (.invokevirtual 23, 3) := by decide +kernel
theorem dL_acts_408 : decode cL_acts 408 = .ok (.ifCond .le 7, 3) := by decide +kernel
theorem dL_acts_411 : decode cL_acts 411 = .ok (.iconst 1, 1) := by decide +kernel
theorem dL_acts_412 : decode cL_acts 412 = .ok (.goto 4, 3) := by decide +kernel
theorem dL_acts_415 : decode cL_acts 415 = .ok (.iconst 0, 1) := by decide +kernel
theorem dL_acts_416 : decode cL_acts 416 = .ok (.ireturn, 1) := by decide +kernel
theorem dL_acts_417 : decode cL_acts 417 = .ok (.iload_n 3, 1) := by decide +kernel
theorem dL_acts_418 : decode cL_acts 418 = .ok (.bipush 14, 2) := by decide +kernel
theorem dL_acts_420 : decode cL_acts 420 = .ok (.if_icmp .ge 191, 3) := by decide +kernel
theorem dL_acts_423 : decode cL_acts 423 = .ok (.iload 6, 2) := by decide +kernel
theorem dL_acts_425 : decode cL_acts 425 = .ok (.ifCond .eq 13, 3) := by decide +kernel
theorem dL_acts_428 : decode cL_acts 428 = .ok (.aload_n 0, 1) := by decide +kernel
theorem dL_acts_429 : decode cL_acts 429 = .ok (.iload 5, 2) := by decide +kernel
theorem dL_acts_431 : decode cL_acts 431 = .ok (.iconst 0, 1) := by decide +kernel
theorem dL_acts_432 : decode cL_acts 432 = .ok (.invokevirtual 23, 3) := by decide +kernel
theorem dL_acts_435 : decode cL_acts 435 = .ok (.goto 4, 3) := by decide +kernel
theorem dL_acts_438 : decode cL_acts 438 = .ok (.iconst 0, 1) := by decide +kernel
theorem dL_acts_439 : decode cL_acts 439 = .ok (.istore 7, 2) := by decide +kernel
theorem dL_acts_441 : decode cL_acts 441 = .ok (.iload_n 2, 1) := by decide +kernel
theorem dL_acts_442 : decode cL_acts 442 = .ok (.iload 7, 2) := by decide +kernel
theorem dL_acts_444 : decode cL_acts 444 = .ok (.iconst 1, 1) := by decide +kernel
theorem dL_acts_445 : decode cL_acts 445 = .ok (.iadd, 1) := by decide +kernel
theorem dL_acts_446 : decode cL_acts 446 = .ok (.invokestatic 36, 3) := by decide +kernel
theorem dL_acts_449 : decode cL_acts 449 = .ok (.istore 8, 2) := by decide +kernel
theorem dL_acts_451 : decode cL_acts 451 = .ok (.iload 6, 2) := by decide +kernel
theorem dL_acts_453 : decode cL_acts 453 = .ok (.ifCond .eq 22, 3) := by decide +kernel
theorem dL_acts_456 : decode cL_acts 456 = .ok (.iload 8, 2) := by decide +kernel
theorem dL_acts_458 : decode cL_acts 458 = .ok (.iload 7, 2) := by decide +kernel
theorem dL_acts_460 : decode cL_acts 460 = .ok (.if_icmp .ge 15, 3) := by decide +kernel
theorem dL_acts_463 : decode cL_acts 463 = .ok (.aload_n 0, 1) := by decide +kernel
theorem dL_acts_464 : decode cL_acts 464 = .ok (.iload 5, 2) := by decide +kernel
theorem dL_acts_466 : decode cL_acts 466 = .ok (.iload 8, 2) := by decide +kernel
theorem dL_acts_468 : decode cL_acts 468 = .ok (.iconst 3, 1) := by decide +kernel
theorem dL_acts_469 : decode cL_acts 469 = .ok (.invokevirtual 28, 3) := by decide +kernel
theorem dL_acts_472 : decode cL_acts 472 = .ok (.goto 4, 3) := by decide +kernel
theorem dL_acts_475 : decode cL_acts 475 = .ok (.iconst 0, 1) := by decide +kernel
theorem dL_acts_476 : decode cL_acts 476 = .ok (.istore 9, 2) := by decide +kernel
theorem dL_acts_478 : decode cL_acts 478 = .ok (.aload_n 0, 1) := by decide +kernel
theorem dL_acts_479 : decode cL_acts 479 = .ok (.iload 5, 2) := by decide +kernel
theorem dL_acts_481 : decode cL_acts 481 = .ok (.iload 8, 2) := by decide +kernel
theorem dL_acts_483 : decode cL_acts 483 = .ok (.iload_n 2, 1) := by decide +kernel
theorem dL_acts_484 : decode cL_acts 484 = .ok (.bipush 6, 2) := by decide +kernel
theorem dL_acts_486 : decode cL_acts 486 = .ok (.ishr, 1) := by decide +kernel
theorem dL_acts_487 : decode cL_acts 487 = .ok (.iconst 2, 1) := by decide +kernel
theorem dL_acts_488 : decode cL_acts 488 = .ok (.invokestatic 36, 3) := by decide +kernel
theorem dL_acts_491 : decode cL_acts 491 = .ok (.ifCond .ne 7, 3) := by decide +kernel
theorem dL_acts_494 : decode cL_acts 494 = .ok (.iconst 1, 1) := by decide +kernel
theorem dL_acts_495 : decode cL_acts 495 = .ok (.goto 4, 3) := by decide +kernel
theorem dL_acts_498 : decode cL_acts 498 = .ok (.iconst (-1), 1) := by decide +kernel
theorem dL_acts_499 : decode cL_acts 499 = .ok (.invokevirtual 70, 3) := by decide +kernel
theorem dL_acts_502 : decode cL_acts 502 = .ok (.istore 10, 2) := by decide +kernel
theorem dL_acts_504 : decode cL_acts 504 = .ok (.iload 6, 2) := by decide +kernel
theorem dL_acts_506 : decode cL_acts 506 = .ok (.ifCond .eq 10, 3) := by decide +kernel
theorem dL_acts_509 : decode cL_acts 509 = .ok (.iload 8, 2) := by decide +kernel
theorem dL_acts_511 : decode cL_acts 511 = .ok (.iload 7, 2) := by decide +kernel
theorem dL_acts_513 : decode cL_acts 513 = .ok (.if_icmp .ne 18, 3) := by decide +kernel
theorem dL_acts_516 : decode cL_acts 516 = .ok (.iload 10, 2) := by decide +kernel
theorem dL_acts_518 : decode cL_acts 518 = .ok (.ldc 65, 2) := by decide +kernel
theorem dL_acts_520 : decode cL_acts 520 = .ok (.if_icmp .ne 7, 3) := by decide +kernel
theorem dL_acts_523 : decode cL_acts 523 = .ok (.iconst 1, 1) := by decide +kernel
theorem dL_acts_524 : decode cL_acts 524 = .ok (.goto 86, 3) := by decide +kernel
theorem dL_acts_527 : decode cL_acts 527 = .ok (.iconst 0, 1) := by decide +kernel
theorem dL_acts_528 : decode cL_acts 528 = .ok (.goto 82, 3) := by decide +kernel
theorem dL_acts_531 : decode cL_acts 531 = .ok (.iload 9, 2) := by decide +kernel
theorem dL_acts_533 : decode cL_acts 533 = .ok (.iconst 2, 1) := by decide +kernel
theorem dL_acts_534 : decode cL_acts 534 = .ok (.if_icmp .eq 18, 3) := by decide +kernel
theorem dL_acts_537 : decode cL_acts 537 = .ok (.iload 10, 2) := by decide +kernel
theorem dL_acts_539 : decode cL_acts 539 = .ok (.ldc 61, 2) := by decide +kernel
theorem dL_acts_541 : decode cL_acts 541 = .ok (.if_icmp .ne 7, 3) := by decide +kernel
theorem dL_acts_544 : decode cL_acts 544 = .ok (.iconst 1, 1) := by decide +kernel
theorem dL_acts_545 : decode cL_acts 545 = .ok (.goto 65, 3) := by decide +kernel
theorem dL_acts_548 : decode cL_acts 548 = .ok (.iconst 0, 1) := by decide +kernel
theorem dL_acts_549 : decode cL_acts 549 = .ok (.goto 61, 3) := by decide +kernel
theorem dL_acts_552 : decode cL_acts 552 = .ok (.iload 10, 2) := by decide +kernel
theorem dL_acts_554 : decode cL_acts 554 = .ok (.ldc 61, 2) := by decide +kernel
theorem dL_acts_556 : decode cL_acts 556 = .ok (.if_icmp .eq 49, 3) := by decide +kernel
theorem dL_acts_559 : decode cL_acts 559 = .ok (.iload 10, 2) := by decide +kernel
theorem dL_acts_561 : decode cL_acts 561 = .ok (.ldc 66, 2) := by decide +kernel
theorem dL_acts_563 : decode cL_acts 563 = .ok (.if_icmp .ne 9, 3) := by decide +kernel
theorem dL_acts_566 : decode cL_acts 566 = .ok (.iload 4, 2) := by decide +kernel
theorem dL_acts_568 : decode cL_acts 568 = .ok (.iconst 5, 1) := by decide +kernel
theorem dL_acts_569 : decode cL_acts 569 = .ok (.if_icmp .eq 36, 3) := by decide +kernel
theorem dL_acts_572 : decode cL_acts 572 = .ok (.iload 10, 2) := by decide +kernel
theorem dL_acts_574 : decode cL_acts 574 = .ok (.iload 4, 2) := by decide +kernel
theorem dL_acts_576 : decode cL_acts 576 = .ok (.if_icmp .ne 33, 3) := by decide +kernel
theorem dL_acts_579 : decode cL_acts 579 = .ok (.aload_n 0, 1) := by decide +kernel
theorem dL_acts_580 : decode cL_acts 580 = .ok (.iload 10, 2) := by decide +kernel
theorem dL_acts_582 : decode cL_acts 582 = .ok (.bipush 6, 2) := by decide +kernel
theorem dL_acts_584 : decode cL_acts 584 = .ok (.invokevirtual 23, 3) := by decide +kernel
theorem dL_acts_587 : decode cL_acts 587 = .ok (.iload 5, 2) := by decide +kernel
theorem dL_acts_589 : decode cL_acts 589 = .ok (.if_icmp .ne 20, 3) := by decide +kernel
theorem dL_acts_592 : decode cL_acts 592 = .ok (.aload_n 0, 1) := by decide +kernel
theorem dL_acts_593 : decode cL_acts 593 = .ok (.iload 10, 2) := by decide +kernel
theorem dL_acts_595 : decode cL_acts 595 = .ok (.bipush 7, 2) := by decide +kernel
theorem dL_acts_597 : decode cL_acts 597 = .ok (.invokevirtual 23, 3) := by decide +kernel
theorem dL_acts_600 : decode cL_acts 600 = .ok (.iload 8, 2) := by decide +kernel
theorem dL_acts_602 : decode cL_acts 602 = .ok (.if_icmp .ne 7, 3) := by decide +kernel
theorem dL_acts_605 : decode cL_acts 605 = .ok (.iconst 1, 1) := by decide +kernel
theorem dL_acts_606 : decode cL_acts 606 = .ok (.goto 4, 3) := by decide +kernel
theorem dL_acts_609 : decode cL_acts 609 = .ok (.iconst 0, 1) := by decide +kernel
theorem dL_acts_610 : decode cL_acts 610 = .ok (.ireturn, 1) := by decide +kernel
theorem dL_acts_611 : decode cL_acts 611 = .ok (.iload_n 3, 1) := by decide +kernel
theorem dL_acts_612 : decode cL_acts 612 = .ok (.bipush 14, 2) := by decide +kernel
theorem dL_acts_614 : decode cL_acts 614 = .ok (.if_icmp .ne 62, 3) := by decide +kernel
theorem dL_acts_617 : decode cL_acts 617 = .ok (.iload 6, 2) := by decide +kernel
theorem dL_acts_619 : decode cL_acts 619 = .ok (.ifCond .eq 14, 3) := by decide +kernel
theorem dL_acts_622 : decode cL_acts 622 = .ok (.aload_n 0, 1) := by decide +kernel
theorem dL_acts_623 : decode cL_acts 623 = .ok (.iload 5, 2) := by decide +kernel
theorem dL_acts_625 : decode cL_acts 625 = .ok (.bipush 8, 2) := by decide +kernel
theorem dL_acts_627 : decode cL_acts 627 = .ok (.invokevirtual 23, 3) := by decide +kernel
theorem dL_acts_630 : decode cL_acts 630 = .ok (.goto 4, 3) := by decide +kernel
theorem dL_acts_633 : decode cL_acts 633 = .ok (.iconst 0, 1) := by decide +kernel
theorem dL_acts_634 : decode cL_acts 634 = .ok (.istore 7, 2) := by decide +kernel
theorem dL_acts_636 : decode cL_acts 636 = .ok (.iload_n 2, 1) := by decide +kernel
theorem dL_acts_637 : decode cL_acts 637 = .ok (.iconst 3, 1) := by decide +kernel
theorem dL_acts_638 : decode cL_acts 638 = .ok (.invokestatic 36, 3) := by decide +kernel
theorem dL_acts_641 : decode cL_acts 641 = .ok (.ifCond .gt 29, 3) := by decide +kernel
theorem dL_acts_644 : decode cL_acts 644 = .ok (.aload_n 0, 1) := by decide +kernel
theorem dL_acts_645 : decode cL_acts 645 = .ok (.iload 5, 2) := by decide +kernel
theorem dL_acts_647 : decode cL_acts 647 = .ok (.invokevirtual 73, 3) := by decide +kernel
theorem dL_acts_650 : decode cL_acts 650 = .ok (.iload 6, 2) := by decide +kernel
theorem dL_acts_652 : decode cL_acts 652 = .ok (.ifCond .eq 13, 3) := by decide +kernel
theorem dL_acts_655 : decode cL_acts 655 = .ok (.iload 4, 2) := by decide +kernel
theorem dL_acts_657 : decode cL_acts 657 = .ok (.iconst 1, 1) := by decide +kernel
theorem dL_acts_658 : decode cL_acts 658 = .ok (.isub, 1) := by decide +kernel
theorem dL_acts_659 : decode cL_acts 659 = .ok (.iload 7, 2) := by decide +kernel
theorem dL_acts_661 : decode cL_acts 661 = .ok (.isub, 1) := by decide +kernel
theorem dL_acts_662 : decode cL_acts 662 = .ok (.goto 5, 3) := by decide +kernel
theorem dL_acts_665 : decode cL_acts 665 = .ok (.ldc 65, 2) := by decide +kernel
theorem dL_acts_667 : decode cL_acts 667 = .ok (.if_icmp .ne 7, 3) := by decide +kernel
theorem dL_acts_670 : decode cL_acts 670 = .ok (.iconst 1, 1) := by decide +kernel
theorem dL_acts_671 : decode cL_acts 671 = .ok (.goto 4, 3) := by decide +kernel
theorem dL_acts_674 : decode cL_acts 674 = .ok (.iconst 0, 1) := by decide +kernel
theorem dL_acts_675 : decode cL_acts 675 = .ok (.ireturn, 1) := by decide +kernel
theorem dL_acts_676 : decode cL_acts 676 = .ok (.iload_n 3, 1) := by decide +kernel
theorem dL_acts_677 : decode cL_acts 677 = .ok (.bipush 15, 2) := by decide +kernel
theorem dL_acts_679 : decode cL_acts 679 = .ok (.if_icmp .ne 107, 3) := by decide +kernel
theorem dL_acts_682 : decode cL_acts 682 = .ok (.iload_n 2, 1) := by decide +kernel
theorem dL_acts_683 : decode cL_acts 683 = .ok (.iconst 4, 1) := by decide +kernel
theorem dL_acts_684 : decode cL_acts 684 = .ok (.invokestatic 36, 3) := by decide +kernel
theorem dL_acts_687 : decode cL_acts 687 = .ok (.istore 7, 2) := by decide +kernel
theorem dL_acts_689 : decode cL_acts 689 = .ok (.iload_n 2, 1) := by decide +kernel
theorem dL_acts_690 : decode cL_acts 690 = .ok (.iconst 2, 1) := by decide +kernel
theorem dL_acts_691 : decode cL_acts 691 = .ok (.ishr, 1) := by decide +kernel
theorem dL_acts_692 : decode cL_acts 692 = .ok (.bipush 24, 2) := by decide +kernel
theorem dL_acts_694 : decode cL_acts 694 = .ok (.invokestatic 36, 3) := by decide +kernel
theorem dL_acts_697 : decode cL_acts 697 = .ok (.istore 8, 2) := by decide +kernel
theorem dL_acts_699 : decode cL_acts 699 = .ok (.iload 7, 2) := by decide +kernel
theorem dL_acts_701 : decode cL_acts 701 = .ok (.iconst 3, 1) := by decide +kernel
theorem dL_acts_702 : decode cL_acts 702 = .ok (.if_icmp .ne 7, 3) := by decide +kernel
theorem dL_acts_705 : decode cL_acts 705 = .ok (.iconst 0, 1) := by decide +kernel
theorem dL_acts_706 : decode cL_acts 706 = .ok (.goto 12, 3) := by decide +kernel
theorem dL_acts_709 : decode cL_acts 709 = .ok (.aload_n 0, 1) := by decide +kernel
theorem dL_acts_710 : decode cL_acts 710 = .ok (.bipush 10, 2) := by decide +kernel
theorem dL_acts_712 : decode cL_acts 712 = .ok (.iload 7, 2) := by decide +kernel
theorem dL_acts_714 : decode cL_acts 714 = .ok (.iadd, 1) := by decide +kernel
theorem dL_acts_715 : decode cL_acts 715 = .ok (.invokevirtual 13, 3) := by decide +kernel
theorem dL_acts_718 : decode cL_acts 718 = .ok (.istore 9, 2) := by decide +kernel
theorem dL_acts_720 : decode cL_acts 720 = .ok (.iload 7, 2) := by decide +kernel
theorem dL_acts_722 : decode cL_acts 722 = .ok (.iconst 3, 1) := by decide +kernel
theorem dL_acts_723 : decode cL_acts 723 = .ok (.if_icmp .eq 27, 3) := by decide +kernel
theorem dL_acts_726 : decode cL_acts 726 = .ok (.iload 8, 2) := by decide +kernel
theorem dL_acts_728 : decode cL_acts 728 = .ok (.ifCond .eq 22, 3) := by decide +kernel
theorem dL_acts_731 : decode cL_acts 731 = .ok (.iload 7, 2) := by decide +kernel
theorem dL_acts_733 : decode cL_acts 733 = .ok (.iconst 2, 1) := by decide +kernel
theorem dL_acts_734 : decode cL_acts 734 = .ok (.if_icmp .ne 20, 3) := by decide +kernel
theorem dL_acts_737 : decode cL_acts 737 = .ok (.iload 8, 2) := by decide +kernel
theorem dL_acts_739 : decode cL_acts 739 = .ok (.iconst 2, 1) := by decide +kernel
theorem dL_acts_740 : decode cL_acts 740 = .ok (.if_icmp .lt 10, 3) := by decide +kernel
theorem dL_acts_743 : decode cL_acts 743 = .ok (.iload 8, 2) := by decide +kernel
theorem dL_acts_745 : decode cL_acts 745 = .ok (.bipush 20, 2) := by decide +kernel
theorem dL_acts_747 : decode cL_acts 747 = .ok (.if_icmp .le 7, 3) := by decide +kernel
theorem dL_acts_750 : decode cL_acts 750 = .ok (.iconst 1, 1) := by decide +kernel
theorem dL_acts_751 : decode cL_acts 751 = .ok (.goto 4, 3) := by decide +kernel
theorem dL_acts_754 : decode cL_acts 754 = .ok (.iconst 0, 1) := by decide +kernel
theorem dL_acts_755 : decode cL_acts 755 = .ok (.istore 10, 2) := by decide +kernel
theorem dL_acts_757 : decode cL_acts 757 = .ok (.aload_n 0, 1) := by decide +kernel
theorem dL_acts_758 : decode cL_acts 758 = .ok (.iload 7, 2) := by decide +kernel
theorem dL_acts_760 : decode cL_acts 760 = .ok (.iload 8, 2) := by decide +kernel
theorem dL_acts_762 : decode cL_acts 762 = .ok (.invokevirtual 76, 3) := by decide +kernel
theorem dL_acts_765 : decode cL_acts 765 = .ok (.iload 10, 2) := by decide +kernel
theorem dL_acts_767 : decode cL_acts 767 = .ok (.ifCond .eq 8, 3) := by decide +kernel
theorem dL_acts_770 : decode cL_acts 770 = .ok (.ldc 65, 2) := by decide +kernel
theorem dL_acts_772 : decode cL_acts 772 = .ok (.goto 5, 3) := by decide +kernel
theorem dL_acts_775 : decode cL_acts 775 = .ok (.iload 9, 2) := by decide +kernel
theorem dL_acts_777 : decode cL_acts 777 = .ok (.if_icmp .ne 7, 3) := by decide +kernel
theorem dL_acts_780 : decode cL_acts 780 = .ok (.iconst 1, 1) := by decide +kernel
theorem dL_acts_781 : decode cL_acts 781 = .ok (.goto 4, 3) := by decide +kernel
theorem dL_acts_784 : decode cL_acts 784 = .ok (.iconst 0, 1) := by decide +kernel
theorem dL_acts_785 : decode cL_acts 785 = .ok (.ireturn, 1) := by decide +kernel
theorem dL_acts_786 : decode cL_acts 786 = .ok (.aload_n 0, 1) := by decide +kernel
theorem dL_acts_787 : decode cL_acts 787 = .ok (.iconst 0, 1) := by decide +kernel
theorem dL_acts_788 : decode cL_acts 788 = .ok (.invokevirtual 13, 3) := by decide +kernel
theorem dL_acts_791 : decode cL_acts 791 = .ok (.istore 7, 2) := by decide +kernel
theorem dL_acts_793 : decode cL_acts 793 = .ok (.iload_n 3, 1) := by decide +kernel
theorem dL_acts_794 : decode cL_acts 794 = .ok (.bipush 16, 2) := by decide +kernel
theorem dL_acts_796 : decode cL_acts 796 = .ok (.if_icmp .ne 86, 3) := by decide +kernel
theorem dL_acts_799 : decode cL_acts 799 = .ok (.iload_n 2, 1) := by decide +kernel
theorem dL_acts_800 : decode cL_acts 800 = .ok (.bipush 11, 2) := by decide +kernel
theorem dL_acts_802 : decode cL_acts 802 = .ok (.invokestatic 36, 3) := by decide +kernel
theorem dL_acts_805 : decode cL_acts 805 = .ok (.iconst 5, 1) := by decide +kernel
theorem dL_acts_806 : decode cL_acts 806 = .ok (.isub, 1) := by decide +kernel
theorem dL_acts_807 : decode cL_acts 807 = .ok (.istore 8, 2) := by decide +kernel
theorem dL_acts_809 : decode cL_acts 809 = .ok (.iload_n 2, 1) := by decide +kernel
theorem dL_acts_810 : decode cL_acts 810 = .ok (.iconst 4, 1) := by decide +kernel
theorem dL_acts_811 : decode cL_acts 811 = .ok (.ishr, 1) := by decide +kernel
theorem dL_acts_812 : decode cL_acts 812 = .ok (.iconst 4, 1) := by decide +kernel
theorem dL_acts_813 : decode cL_acts 813 = .ok (.invokestatic 36, 3) := by decide +kernel
theorem dL_acts_816 : decode cL_acts 816 = .ok (.istore 9, 2) := by decide +kernel
theorem dL_acts_818 : decode cL_acts 818 = .ok (.iload_n 2, 1) := by decide +kernel
theorem dL_acts_819 : decode cL_acts 819 = .ok (.bipush 6, 2) := by decide +kernel
theorem dL_acts_821 : decode cL_acts 821 = .ok (.ishr, 1) := by decide +kernel
theorem dL_acts_822 : decode cL_acts 822 = .ok (.iconst 4, 1) := by decide +kernel
theorem dL_acts_823 : decode cL_acts 823 = .ok (.invokestatic 36, 3) := by decide +kernel
theorem dL_acts_826 : decode cL_acts 826 = .ok (.istore 10, 2) := by decide +kernel
theorem dL_acts_828 : decode cL_acts 828 = .ok (.aload_n 0, 1) := by decide +kernel
theorem dL_acts_829 : decode cL_acts 829 = .ok (.iload 8, 2) := by decide +kernel
theorem dL_acts_831 : decode cL_acts 831 = .ok (.iload 9, 2) := by decide +kernel
theorem dL_acts_833 : decode cL_acts 833 = .ok (.iload 10, 2) := by decide +kernel
theorem dL_acts_835 : decode cL_acts 835 = .ok (.invokevirtual 79, 3) := by decide +kernel
theorem dL_acts_838 : decode cL_acts 838 = .ok (.iload 8, 2) := by decide +kernel
theorem dL_acts_840 : decode cL_acts 840 = .ok (.ifCond .eq 12, 3) := by decide +kernel
theorem dL_acts_843 : decode cL_acts 843 = .ok (.iload 9, 2) := by decide +kernel
theorem dL_acts_845 : decode cL_acts 845 = .ok (.iload 10, 2) := by decide +kernel
theorem dL_acts_847 : decode cL_acts 847 = .ok (.iadd, 1) := by decide +kernel
theorem dL_acts_848 : decode cL_acts 848 = .ok (.iconst 3, 1) := by decide +kernel
theorem dL_acts_849 : decode cL_acts 849 = .ok (.if_icmp .le 8, 3) := by decide +kernel
theorem dL_acts_852 : decode cL_acts 852 = .ok (.ldc 65, 2) := by decide +kernel
theorem dL_acts_854 : decode cL_acts 854 = .ok (.goto 19, 3) := by decide +kernel
theorem dL_acts_857 : decode cL_acts 857 = .ok (.iload 7, 2) := by decide +kernel
theorem dL_acts_859 : decode cL_acts 859 = .ok (.bipush 6, 2) := by decide +kernel
theorem dL_acts_861 : decode cL_acts 861 = .ok (.if_icmp .ne 8, 3) := by decide +kernel
theorem dL_acts_864 : decode cL_acts 864 = .ok (.ldc 66, 2) := by decide +kernel
theorem dL_acts_866 : decode cL_acts 866 = .ok (.goto 7, 3) := by decide +kernel
theorem dL_acts_869 : decode cL_acts 869 = .ok (.iload 7, 2) := by decide +kernel
theorem dL_acts_871 : decode cL_acts 871 = .ok (.iconst 1, 1) := by decide +kernel
theorem dL_acts_872 : decode cL_acts 872 = .ok (.iadd, 1) := by decide +kernel
theorem dL_acts_873 : decode cL_acts 873 = .ok (.if_icmp .ne 7, 3) := by decide +kernel
theorem dL_acts_876 : decode cL_acts 876 = .ok (.iconst 1, 1) := by decide +kernel
theorem dL_acts_877 : decode cL_acts 877 = .ok (.goto 4, 3) := by decide +kernel
theorem dL_acts_880 : decode cL_acts 880 = .ok (.iconst 0, 1) := by decide +kernel
theorem dL_acts_881 : decode cL_acts 881 = .ok (.ireturn, 1) := by decide +kernel
theorem dL_acts_882 : decode cL_acts 882 = .ok (.iload_n 3, 1) := by decide +kernel
theorem dL_acts_883 : decode cL_acts 883 = .ok (.bipush 17, 2) := by decide +kernel
theorem dL_acts_885 : decode cL_acts 885 = .ok (.if_icmp .ne 76, 3) := by decide +kernel
theorem dL_acts_888 : decode cL_acts 888 = .ok (.iload_n 2, 1) := by decide +kernel
theorem dL_acts_889 : decode cL_acts 889 = .ok (.iconst 2, 1) := by decide +kernel
theorem dL_acts_890 : decode cL_acts 890 = .ok (.invokestatic 36, 3) := by decide +kernel
theorem dL_acts_893 : decode cL_acts 893 = .ok (.ifCond .ne 68, 3) := by decide +kernel
theorem dL_acts_896 : decode cL_acts 896 = .ok (.iload_n 2, 1) := by decide +kernel
theorem dL_acts_897 : decode cL_acts 897 = .ok (.iconst 1, 1) := by decide +kernel
theorem dL_acts_898 : decode cL_acts 898 = .ok (.ishr, 1) := by decide +kernel
theorem dL_acts_899 : decode cL_acts 899 = .ok (.iload 7, 2) := by decide +kernel
theorem dL_acts_901 : decode cL_acts 901 = .ok (.iconst 1, 1) := by decide +kernel
theorem dL_acts_902 : decode cL_acts 902 = .ok (.iadd, 1) := by decide +kernel
theorem dL_acts_903 : decode cL_acts 903 = .ok (.invokestatic 36, 3) := by decide +kernel
theorem dL_acts_906 : decode cL_acts 906 = .ok (.istore 8, 2) := by decide +kernel
theorem dL_acts_908 : decode cL_acts 908 = .ok (.aload_n 0, 1) := by decide +kernel
theorem dL_acts_909 : decode cL_acts 909 = .ok (.iload 8, 2) := by decide +kernel
theorem dL_acts_911 : decode cL_acts 911 = .ok (.iconst 0, 1) := by decide +kernel
theorem dL_acts_912 : decode cL_acts 912 = .ok (.invokevirtual 19, 3) := by decide +kernel
theorem dL_acts_915 : decode cL_acts 915 = .ok (.istore 9, 2) := by decide +kernel
theorem dL_acts_917 : decode cL_acts 917 = .ok (.aload_n 0, 1) := by decide +kernel
theorem dL_acts_918 : decode cL_acts 918 = .ok (.iload 8, 2) := by decide +kernel
theorem dL_acts_920 : decode cL_acts 920 = .ok (.invokevirtual 82, 3) := by decide +kernel
theorem dL_acts_923 : decode cL_acts 923 = .ok (.iload 8, 2) := by decide +kernel
theorem dL_acts_925 : decode cL_acts 925 = .ok (.iload 7, 2) := by decide +kernel
theorem dL_acts_927 : decode cL_acts 927 = .ok (.if_icmp .ne 8, 3) := by decide +kernel
theorem dL_acts_930 : decode cL_acts 930 = .ok (.ldc 61, 2) := by decide +kernel
theorem dL_acts_932 : decode cL_acts 932 = .ok (.goto 5, 3) := by decide +kernel
theorem dL_acts_935 : decode cL_acts 935 = .ok (.iload 9, 2) := by decide +kernel
theorem dL_acts_937 : decode cL_acts 937 = .ok (.if_icmp .ne 22, 3) := by decide +kernel
theorem dL_acts_940 : decode cL_acts 940 = .ok (.iload 8, 2) := by decide +kernel
theorem dL_acts_942 : decode cL_acts 942 = .ok (.iload 7, 2) := by decide +kernel
theorem dL_acts_944 : decode cL_acts 944 = .ok (.if_icmp .eq 11, 3) := by decide +kernel
theorem dL_acts_947 : decode cL_acts 947 = .ok (.aload_n 0, 1) := by decide +kernel
theorem dL_acts_948 : decode cL_acts 948 = .ok (.iconst 1, 1) := by decide +kernel
theorem dL_acts_949 : decode cL_acts 949 = .ok (.invokevirtual 13, 3) := by decide +kernel
theorem dL_acts_952 : decode cL_acts 952 = .ok (.ifCond .ne 7, 3) := by decide +kernel
theorem dL_acts_955 : decode cL_acts 955 = .ok (.iconst 1, 1) := by decide +kernel
theorem dL_acts_956 : decode cL_acts 956 = .ok (.goto 4, 3) := by decide +kernel
theorem dL_acts_959 : decode cL_acts 959 = .ok (.iconst 0, 1) := by decide +kernel
theorem dL_acts_960 : decode cL_acts 960 = .ok (.ireturn, 1) := by decide +kernel
theorem dL_acts_961 : decode cL_acts 961 = .ok (.iload_n 3, 1) := by decide +kernel
theorem dL_acts_962 : decode cL_acts 962 = .ok (.bipush 18, 2) := by decide +kernel
theorem dL_acts_964 : decode cL_acts 964 = .ok (.if_icmp .lt 30, 3) := by decide +kernel
theorem dL_acts_967 : decode cL_acts 967 = .ok (.iload_n 2, 1) := by decide +kernel
theorem dL_acts_968 : decode cL_acts 968 = .ok (.iconst 5, 1) := by decide +kernel
theorem dL_acts_969 : decode cL_acts 969 = .ok (.ishr, 1) := by decide +kernel
theorem dL_acts_970 : decode cL_acts 970 = .ok (.iconst 3, 1) := by decide +kernel
theorem dL_acts_971 : decode cL_acts 971 = .ok (.invokestatic 36, 3) := by decide +kernel
theorem dL_acts_974 : decode cL_acts 974 = .ok (.ifCond .gt 20, 3) := by decide +kernel
theorem dL_acts_977 : decode cL_acts 977 = .ok (.aload_n 0, 1) := by decide +kernel
theorem dL_acts_978 : decode cL_acts 978 = .ok (.iload_n 2, 1) := by decide +kernel
theorem dL_acts_979 : decode cL_acts 979 = .ok (.iconst 2, 1) := by decide +kernel
theorem dL_acts_980 : decode cL_acts 980 = .ok (.ishr, 1) := by decide +kernel
theorem dL_acts_981 : decode cL_acts 981 = .ok (.invokestatic 85, 3) := by decide +kernel
theorem dL_acts_984 : decode cL_acts 984 = .ok (.ifCond .eq 14, 3) := by decide +kernel
theorem dL_acts_987 : decode cL_acts 987 = .ok (.aload_n 0, 1) := by decide +kernel
theorem dL_acts_988 : decode cL_acts 988 = .ok (.invokestatic 89, 3) := by decide +kernel
theorem dL_acts_991 : decode cL_acts 991 = .ok (.ifCond .eq 7, 3) := by decide +kernel
theorem dL_acts_994 : decode cL_acts 994 = .ok (.iconst 1, 1) := by decide +kernel
theorem dL_acts_995 : decode cL_acts 995 = .ok (.goto 4, 3) := by decide +kernel
theorem dL_acts_998 : decode cL_acts 998 = .ok (.iconst 0, 1) := by decide +kernel
theorem dL_acts_999 : decode cL_acts 999 = .ok (.ireturn, 1) := by decide +kernel
theorem dL_law_0 : decode cL_law 0 = .ok (.new 14, 3) := by decide +kernel
theorem dL_law_3 : decode cL_law 3 = .ok (.dup, 1) := by decide +kernel
theorem dL_law_4 : decode cL_law 4 = .ok (.invokespecial 93, 3) := by decide +kernel
theorem dL_law_7 : decode cL_law 7 = .ok (.astore_n 1, 1) := by decide +kernel
theorem dL_law_8 : decode cL_law 8 = .ok (.aload_n 1, 1) := by decide +kernel
theorem dL_law_9 : decode cL_law 9 = .ok (.iconst 0, 1) := by decide +kernel
theorem dL_law_10 : decode cL_law 10 = .ok (.invokestatic 94, 3) := by decide +kernel
theorem dL_law_13 : decode cL_law 13 = .ok (.ifCond .eq 70, 3) := by decide +kernel
theorem dL_law_16 : decode cL_law 16 = .ok (.aload_n 1, 1) := by decide +kernel
theorem dL_law_17 : decode cL_law 17 = .ok (.invokevirtual 97, 3) := by decide +kernel
theorem dL_law_20 : decode cL_law 20 = .ok (.ldc 61, 2) := by decide +kernel
theorem dL_law_22 : decode cL_law 22 = .ok (.if_icmp .ne 61, 3) := by decide +kernel
theorem dL_law_25 : decode cL_law 25 = .ok (.aload_n 1, 1) := by decide +kernel
theorem dL_law_26 : decode cL_law 26 = .ok (.aload_n 0, 1) := by decide +kernel
theorem dL_law_27 : decode cL_law 27 = .ok (.iconst 0, 1) := by decide +kernel
theorem dL_law_28 : decode cL_law 28 = .ok (.invokestatic 100, 3) := by decide +kernel
theorem dL_law_31 : decode cL_law 31 = .ok (.ldc 104, 2) := by decide +kernel
theorem dL_law_33 : decode cL_law 33 = .ok (.iand, 1) := by decide +kernel
theorem dL_law_34 : decode cL_law 34 = .ok (.ldc 105, 2) := by decide +kernel
theorem dL_law_36 : decode cL_law 36 = .ok (.ior, 1) := by decide +kernel
theorem dL_law_37 : decode cL_law 37 = .ok (.invokestatic 85, 3) := by decide +kernel
theorem dL_law_40 : decode cL_law 40 = .ok (.ifCond .eq 43, 3) := by decide +kernel
theorem dL_law_43 : decode cL_law 43 = .ok (.aload_n 1, 1) := by decide +kernel
theorem dL_law_44 : decode cL_law 44 = .ok (.invokestatic 89, 3) := by decide +kernel
theorem dL_law_47 : decode cL_law 47 = .ok (.ifCond .eq 36, 3) := by decide +kernel
