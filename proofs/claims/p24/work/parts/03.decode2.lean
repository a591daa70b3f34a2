theorem dX9_start_21 : decode cX9_start 21 = .ok (.iload_n 3, 1) := by decide +kernel
theorem dX9_start_22 : decode cX9_start 22 = .ok (.putfield 38, 3) := by decide +kernel
theorem dX9_start_25 : decode cX9_start 25 = .ok (.aload_n 0, 1) := by decide +kernel
theorem dX9_start_26 : decode cX9_start 26 = .ok (.iload 4, 2) := by decide +kernel
theorem dX9_start_28 : decode cX9_start 28 = .ok (.putfield 41, 3) := by decide +kernel
theorem dX9_start_31 : decode cX9_start 31 = .ok (.return_, 1) := by decide +kernel
theorem dX9_addPlace_0 : decode cX9_addPlace 0 = .ok (.aload_n 0, 1) := by decide +kernel
theorem dX9_addPlace_1 : decode cX9_addPlace 1 = .ok (.getfield 24, 3) := by decide +kernel
theorem dX9_addPlace_4 : decode cX9_addPlace 4 = .ok (.bipush 40, 2) := by decide +kernel
theorem dX9_addPlace_6 : decode cX9_addPlace 6 = .ok (.if_icmp .lt 4, 3) := by decide +kernel
theorem dX9_addPlace_9 : decode cX9_addPlace 9 = .ok (.return_, 1) := by decide +kernel
theorem dX9_addPlace_10 : decode cX9_addPlace 10 = .ok (.aload_n 0, 1) := by decide +kernel
theorem dX9_addPlace_11 : decode cX9_addPlace 11 = .ok (.getfield 9, 3) := by decide +kernel
theorem dX9_addPlace_14 : decode cX9_addPlace 14 = .ok (.aload_n 0, 1) := by decide +kernel
theorem dX9_addPlace_15 : decode cX9_addPlace 15 = .ok (.getfield 24, 3) := by decide +kernel
theorem dX9_addPlace_18 : decode cX9_addPlace 18 = .ok (.aload_n 1, 1) := by decide +kernel
theorem dX9_addPlace_19 : decode cX9_addPlace 19 = .ok (.getfield 44, 3) := by decide +kernel
theorem dX9_addPlace_22 : decode cX9_addPlace 22 = .ok (.iastore, 1) := by decide +kernel
theorem dX9_addPlace_23 : decode cX9_addPlace 23 = .ok (.aload_n 0, 1) := by decide +kernel
theorem dX9_addPlace_24 : decode cX9_addPlace 24 = .ok (.getfield 15, 3) := by decide +kernel
theorem dX9_addPlace_27 : decode cX9_addPlace 27 = .ok (.aload_n 0, 1) := by decide +kernel
theorem dX9_addPlace_28 : decode cX9_addPlace 28 = .ok (.getfield 24, 3) := by decide +kernel
theorem dX9_addPlace_31 : decode cX9_addPlace 31 = .ok (.aload_n 1, 1) := by decide +kernel
theorem dX9_addPlace_32 : decode cX9_addPlace 32 = .ok (.getfield 49, 3) := by decide +kernel
theorem dX9_addPlace_35 : decode cX9_addPlace 35 = .ok (.iastore, 1) := by decide +kernel
theorem dX9_addPlace_36 : decode cX9_addPlace 36 = .ok (.aload_n 0, 1) := by decide +kernel
theorem dX9_addPlace_37 : decode cX9_addPlace 37 = .ok (.getfield 18, 3) := by decide +kernel
theorem dX9_addPlace_40 : decode cX9_addPlace 40 = .ok (.aload_n 0, 1) := by decide +kernel
theorem dX9_addPlace_41 : decode cX9_addPlace 41 = .ok (.getfield 24, 3) := by decide +kernel
theorem dX9_addPlace_44 : decode cX9_addPlace 44 = .ok (.aload_n 1, 1) := by decide +kernel
theorem dX9_addPlace_45 : decode cX9_addPlace 45 = .ok (.getfield 52, 3) := by decide +kernel
theorem dX9_addPlace_48 : decode cX9_addPlace 48 = .ok (.iastore, 1) := by decide +kernel
theorem dX9_addPlace_49 : decode cX9_addPlace 49 = .ok (.aload_n 0, 1) := by decide +kernel
theorem dX9_addPlace_50 : decode cX9_addPlace 50 = .ok (.getfield 21, 3) := by decide +kernel
theorem dX9_addPlace_53 : decode cX9_addPlace 53 = .ok (.aload_n 0, 1) := by decide +kernel
theorem dX9_addPlace_54 : decode cX9_addPlace 54 = .ok (.getfield 24, 3) := by decide +kernel
theorem dX9_addPlace_57 : decode cX9_addPlace 57 = .ok (.iload_n 2, 1) := by decide +kernel
theorem dX9_addPlace_58 : decode cX9_addPlace 58 = .ok (.iastore, 1) := by decide +kernel
theorem dX9_addPlace_59 : decode cX9_addPlace 59 = .ok (.aload_n 0, 1) := by decide +kernel
theorem dX9_addPlace_60 : decode cX9_addPlace 60 = .ok (.dup, 1) := by decide +kernel
theorem dX9_addPlace_61 : decode cX9_addPlace 61 = .ok (.getfield 24, 3) := by decide +kernel
theorem dX9_addPlace_64 : decode cX9_addPlace 64 = .ok (.iconst 1, 1) := by decide +kernel
theorem dX9_addPlace_65 : decode cX9_addPlace 65 = .ok (.iadd, 1) := by decide +kernel
theorem dX9_addPlace_66 : decode cX9_addPlace 66 = .ok (.putfield 24, 3) := by decide +kernel
theorem dX9_addPlace_69 : decode cX9_addPlace 69 = .ok (.return_, 1) := by decide +kernel
theorem dX9_has_0 : decode cX9_has 0 = .ok (.iload_n 1, 1) := by decide +kernel
theorem dX9_has_1 : decode cX9_has 1 = .ok (.ifCond .lt 15, 3) := by decide +kernel
theorem dX9_has_4 : decode cX9_has 4 = .ok (.iload_n 1, 1) := by decide +kernel
theorem dX9_has_5 : decode cX9_has 5 = .ok (.aload_n 0, 1) := by decide +kernel
theorem dX9_has_6 : decode cX9_has 6 = .ok (.getfield 24, 3) := by decide +kernel
theorem dX9_has_9 : decode cX9_has 9 = .ok (.if_icmp .ge 7, 3) := by decide +kernel
theorem dX9_has_12 : decode cX9_has 12 = .ok (.iconst 1, 1) := by decide +kernel
theorem dX9_has_13 : decode cX9_has 13 = .ok (.goto 4, 3) := by decide +kernel
theorem dX9_has_16 : decode cX9_has 16 = .ok (.iconst 0, 1) := by decide +kernel
theorem dX9_has_17 : decode cX9_has 17 = .ok (.ireturn, 1) := by decide +kernel
theorem dX9_condition_0 : decode cX9_condition 0 = .ok (.aload_n 0, 1) := by decide +kernel
theorem dX9_condition_1 : decode cX9_condition 1 = .ok (.getfield 34, 3) := by decide +kernel
theorem dX9_condition_4 : decode cX9_condition 4 = .ok (.ifCond .eq 5, 3) := by decide +kernel
theorem dX9_condition_7 : decode cX9_condition 7 = .ok (.iconst 1, 1) := by decide +kernel
theorem dX9_condition_8 : decode cX9_condition 8 = .ok (.ireturn, 1) := by decide +kernel
theorem dX9_condition_9 : decode cX9_condition 9 = .ok (.aload_n 0, 1) := by decide +kernel
theorem dX9_condition_10 : decode cX9_condition 10 = .ok (.getfield 24, 3) := by decide +kernel
theorem dX9_condition_13 : decode cX9_condition 13 = .ok (.bipush 40, 2) := by decide +kernel
theorem dX9_condition_15 : decode cX9_condition 15 = .ok (.if_icmp .lt 7, 3) := by decide +kernel
theorem dX9_condition_18 : decode cX9_condition 18 = .ok (.iconst 2, 1) := by decide +kernel
theorem dX9_condition_19 : decode cX9_condition 19 = .ok (.goto 4, 3) := by decide +kernel
theorem dX9_condition_22 : decode cX9_condition 22 = .ok (.iconst 0, 1) := by decide +kernel
theorem dX9_condition_23 : decode cX9_condition 23 = .ok (.ireturn, 1) := by decide +kernel
theorem dX9_lastX_0 : decode cX9_lastX 0 = .ok (.aload_n 0, 1) := by decide +kernel
theorem dX9_lastX_1 : decode cX9_lastX 1 = .ok (.aload_n 0, 1) := by decide +kernel
theorem dX9_lastX_2 : decode cX9_lastX 2 = .ok (.getfield 24, 3) := by decide +kernel
theorem dX9_lastX_5 : decode cX9_lastX 5 = .ok (.iconst 1, 1) := by decide +kernel
theorem dX9_lastX_6 : decode cX9_lastX 6 = .ok (.isub, 1) := by decide +kernel
theorem dX9_lastX_7 : decode cX9_lastX 7 = .ok (.invokevirtual 54, 3) := by decide +kernel
theorem dX9_lastX_10 : decode cX9_lastX 10 = .ok (.ifCond .eq 17, 3) := by decide +kernel
theorem dX9_lastX_13 : decode cX9_lastX 13 = .ok (.aload_n 0, 1) := by decide +kernel
theorem dX9_lastX_14 : decode cX9_lastX 14 = .ok (.getfield 9, 3) := by decide +kernel
theorem dX9_lastX_17 : decode cX9_lastX 17 = .ok (.aload_n 0, 1) := by decide +kernel
theorem dX9_lastX_18 : decode cX9_lastX 18 = .ok (.getfield 24, 3) := by decide +kernel
theorem dX9_lastX_21 : decode cX9_lastX 21 = .ok (.iconst 1, 1) := by decide +kernel
theorem dX9_lastX_22 : decode cX9_lastX 22 = .ok (.isub, 1) := by decide +kernel
theorem dX9_lastX_23 : decode cX9_lastX 23 = .ok (.iaload, 1) := by decide +kernel
theorem dX9_lastX_24 : decode cX9_lastX 24 = .ok (.goto 4, 3) := by decide +kernel
theorem dX9_lastX_27 : decode cX9_lastX 27 = .ok (.iconst 0, 1) := by decide +kernel
theorem dX9_lastX_28 : decode cX9_lastX 28 = .ok (.ireturn, 1) := by decide +kernel
theorem dX9_lastY_0 : decode cX9_lastY 0 = .ok (.aload_n 0, 1) := by decide +kernel
theorem dX9_lastY_1 : decode cX9_lastY 1 = .ok (.aload_n 0, 1) := by decide +kernel
theorem dX9_lastY_2 : decode cX9_lastY 2 = .ok (.getfield 24, 3) := by decide +kernel
theorem dX9_lastY_5 : decode cX9_lastY 5 = .ok (.iconst 1, 1) := by decide +kernel
theorem dX9_lastY_6 : decode cX9_lastY 6 = .ok (.isub, 1) := by decide +kernel
theorem dX9_lastY_7 : decode cX9_lastY 7 = .ok (.invokevirtual 54, 3) := by decide +kernel
theorem dX9_lastY_10 : decode cX9_lastY 10 = .ok (.ifCond .eq 17, 3) := by decide +kernel
theorem dX9_lastY_13 : decode cX9_lastY 13 = .ok (.aload_n 0, 1) := by decide +kernel
theorem dX9_lastY_14 : decode cX9_lastY 14 = .ok (.getfield 15, 3) := by decide +kernel
theorem dX9_lastY_17 : decode cX9_lastY 17 = .ok (.aload_n 0, 1) := by decide +kernel
theorem dX9_lastY_18 : decode cX9_lastY 18 = .ok (.getfield 24, 3) := by decide +kernel
theorem dX9_lastY_21 : decode cX9_lastY 21 = .ok (.iconst 1, 1) := by decide +kernel
theorem dX9_lastY_22 : decode cX9_lastY 22 = .ok (.isub, 1) := by decide +kernel
theorem dX9_lastY_23 : decode cX9_lastY 23 = .ok (.iaload, 1) := by decide +kernel
theorem dX9_lastY_24 : decode cX9_lastY 24 = .ok (.goto 4, 3) := by decide +kernel
theorem dX9_lastY_27 : decode cX9_lastY 27 = .ok (.iconst 0, 1) := by decide +kernel
theorem dX9_lastY_28 : decode cX9_lastY 28 = .ok (.ireturn, 1) := by decide +kernel
theorem dX9_changeOfX_0 : decode cX9_changeOfX 0 = .ok (.aload_n 0, 1) := by decide +kernel
theorem dX9_changeOfX_1 : decode cX9_changeOfX 1 = .ok (.iload_n 1, 1) := by decide +kernel
theorem dX9_changeOfX_2 : decode cX9_changeOfX 2 = .ok (.invokevirtual 54, 3) := by decide +kernel
theorem dX9_changeOfX_5 : decode cX9_changeOfX 5 = .ok (.ifCond .eq 31, 3) := by decide +kernel
theorem dX9_changeOfX_8 : decode cX9_changeOfX 8 = .ok (.aload_n 0, 1) := by decide +kernel
theorem dX9_changeOfX_9 : decode cX9_changeOfX 9 = .ok (.iload_n 1, 1) := by decide +kernel
theorem dX9_changeOfX_10 : decode cX9_changeOfX 10 = .ok (.iconst 1, 1) := by decide +kernel
theorem dX9_changeOfX_11 : decode cX9_changeOfX 11 = .ok (.isub, 1) := by decide +kernel
theorem dX9_changeOfX_12 : decode cX9_changeOfX 12 = .ok (.invokevirtual 54, 3) := by decide +kernel
theorem dX9_changeOfX_15 : decode cX9_changeOfX 15 = .ok (.ifCond .eq 21, 3) := by decide +kernel
theorem dX9_changeOfX_18 : decode cX9_changeOfX 18 = .ok (.aload_n 0, 1) := by decide +kernel
theorem dX9_changeOfX_19 : decode cX9_changeOfX 19 = .ok (.getfield 9, 3) := by decide +kernel
theorem dX9_changeOfX_22 : decode cX9_changeOfX 22 = .ok (.iload_n 1, 1) := by decide +kernel
theorem dX9_changeOfX_23 : decode cX9_changeOfX 23 = .ok (.iaload, 1) := by decide +kernel
theorem dX9_changeOfX_24 : decode cX9_changeOfX 24 = .ok (.aload_n 0, 1) := by decide +kernel
theorem dX9_changeOfX_25 : decode cX9_changeOfX 25 = .ok (.getfield 9, 3) := by decide +kernel
theorem dX9_changeOfX_28 : decode cX9_changeOfX 28 = .ok (.iload_n 1, 1) := by decide +kernel
theorem dX9_changeOfX_29 : decode cX9_changeOfX 29 = .ok (.iconst 1, 1) := by decide +kernel
theorem dX9_changeOfX_30 : decode cX9_changeOfX 30 = .ok (.isub, 1) := by decide +kernel
theorem dX9_changeOfX_31 : decode cX9_changeOfX 31 = .ok (.iaload, 1) := by decide +kernel
theorem dX9_changeOfX_32 : decode cX9_changeOfX 32 = .ok (.isub, 1) := by decide +kernel
theorem dX9_changeOfX_33 : decode cX9_changeOfX 33 = .ok (.goto 4, 3) := by decide +kernel
theorem dX9_changeOfX_36 : decode cX9_changeOfX 36 = .ok (.iconst 0, 1) := by decide +kernel
theorem dX9_changeOfX_37 : decode cX9_changeOfX 37 = .ok (.ireturn, 1) := by decide +kernel
theorem dX9_changeOfY_0 : decode cX9_changeOfY 0 = .ok (.aload_n 0, 1) := by decide +kernel
theorem dX9_changeOfY_1 : decode cX9_changeOfY 1 = .ok (.iload_n 1, 1) := by decide +kernel
theorem dX9_changeOfY_2 : decode cX9_changeOfY 2 = .ok (.invokevirtual 54, 3) := by decide +kernel
theorem dX9_changeOfY_5 : decode cX9_changeOfY 5 = .ok (.ifCond .eq 31, 3) := by decide +kernel
theorem dX9_changeOfY_8 : decode cX9_changeOfY 8 = .ok (.aload_n 0, 1) := by decide +kernel
theorem dX9_changeOfY_9 : decode cX9_changeOfY 9 = .ok (.iload_n 1, 1) := by decide +kernel
theorem dX9_changeOfY_10 : decode cX9_changeOfY 10 = .ok (.iconst 1, 1) := by decide +kernel
theorem dX9_changeOfY_11 : decode cX9_changeOfY 11 = .ok (.isub, 1) := by decide +kernel
theorem dX9_changeOfY_12 : decode cX9_changeOfY 12 = .ok (.invokevirtual 54, 3) := by decide +kernel
theorem dX9_changeOfY_15 : decode cX9_changeOfY 15 = .ok (.ifCond .eq 21, 3) := by decide +kernel
theorem dX9_changeOfY_18 : decode cX9_changeOfY 18 = .ok (.aload_n 0, 1) := by decide +kernel
theorem dX9_changeOfY_19 : decode cX9_changeOfY 19 = .ok (.getfield 15, 3) := by decide +kernel
theorem dX9_changeOfY_22 : decode cX9_changeOfY 22 = .ok (.iload_n 1, 1) := by decide +kernel
theorem dX9_changeOfY_23 : decode cX9_changeOfY 23 = .ok (.iaload, 1) := by decide +kernel
theorem dX9_changeOfY_24 : decode cX9_changeOfY 24 = .ok (.aload_n 0, 1) := by decide +kernel
theorem dX9_changeOfY_25 : decode cX9_changeOfY 25 = .ok (.getfield 15, 3) := by decide +kernel
theorem dX9_changeOfY_28 : decode cX9_changeOfY 28 = .ok (.iload_n 1, 1) := by decide +kernel
theorem dX9_changeOfY_29 : decode cX9_changeOfY 29 = .ok (.iconst 1, 1) := by decide +kernel
theorem dX9_changeOfY_30 : decode cX9_changeOfY 30 = .ok (.isub, 1) := by decide +kernel
theorem dX9_changeOfY_31 : decode cX9_changeOfY 31 = .ok (.iaload, 1) := by decide +kernel
theorem dX9_changeOfY_32 : decode cX9_changeOfY 32 = .ok (.isub, 1) := by decide +kernel
theorem dX9_changeOfY_33 : decode cX9_changeOfY 33 = .ok (.goto 4, 3) := by decide +kernel
theorem dX9_changeOfY_36 : decode cX9_changeOfY 36 = .ok (.iconst 0, 1) := by decide +kernel
theorem dX9_changeOfY_37 : decode cX9_changeOfY 37 = .ok (.ireturn, 1) := by decide +kernel
theorem dX9_placesOfKind_0 : decode cX9_placesOfKind 0 = .ok (.iconst 0, 1) := by decide +kernel
theorem dX9_placesOfKind_1 : decode cX9_placesOfKind 1 = .ok (.istore_n 2, 1) := by decide +kernel
theorem dX9_placesOfKind_2 : decode cX9_placesOfKind 2 = .ok (.iconst 0, 1) := by decide +kernel
theorem dX9_placesOfKind_3 : decode cX9_placesOfKind 3 = .ok (.istore_n 3, 1) := by decide +kernel
theorem dX9_placesOfKind_4 : decode cX9_placesOfKind 4 = .ok (.iload_n 3, 1) := by decide +kernel
theorem dX9_placesOfKind_5 : decode cX9_placesOfKind 5 = .ok (.aload_n 0, 1) := by decide +kernel
theorem dX9_placesOfKind_6 : decode cX9_placesOfKind 6 = .ok (.getfield 24, 3) := by decide +kernel
theorem dX9_placesOfKind_9 : decode cX9_placesOfKind 9 = .ok (.if_icmp .ge 22, 3) := by decide +kernel
theorem dX9_placesOfKind_12 : decode cX9_placesOfKind 12 = .ok (.aload_n 0, 1) := by decide +kernel
theorem dX9_placesOfKind_13 : decode cX9_placesOfKind 13 = .ok (.getfield 21, 3) := by decide +kernel
theorem dX9_placesOfKind_16 : decode cX9_placesOfKind 16 = .ok (.iload_n 3, 1) := by decide +kernel
theorem dX9_placesOfKind_17 : decode cX9_placesOfKind 17 = .ok (.iaload, 1) := by decide +kernel
theorem dX9_placesOfKind_18 : decode cX9_placesOfKind 18 = .ok (.iload_n 1, 1) := by decide +kernel
theorem dX9_placesOfKind_19 : decode cX9_placesOfKind 19 = .ok (.if_icmp .ne 6, 3) := by decide +kernel
theorem dX9_placesOfKind_22 : decode cX9_placesOfKind 22 = .ok (.iinc 2 1, 3) := by decide +kernel
theorem dX9_placesOfKind_25 : decode cX9_placesOfKind 25 = .ok (.iinc 3 1, 3) := by decide +kernel
theorem dX9_placesOfKind_28 : decode cX9_placesOfKind 28 = .ok (.goto (-24), 3) := by decide +kernel
theorem dX9_placesOfKind_31 : decode cX9_placesOfKind 31 = .ok (.iload_n 2, 1) := by decide +kernel
theorem dX9_placesOfKind_32 : decode cX9_placesOfKind 32 = .ok (.ireturn, 1) := by decide +kernel
theorem dX9_nearestTo_0 : decode cX9_nearestTo 0 = .ok (.iconst 0, 1) := by decide +kernel
theorem dX9_nearestTo_1 : decode cX9_nearestTo 1 = .ok (.istore 5, 2) := by decide +kernel
theorem dX9_nearestTo_3 : decode cX9_nearestTo 3 = .ok (.iconst 1, 1) := by decide +kernel
theorem dX9_nearestTo_4 : decode cX9_nearestTo 4 = .ok (.istore 6, 2) := by decide +kernel
theorem dX9_nearestTo_6 : decode cX9_nearestTo 6 = .ok (.iload 6, 2) := by decide +kernel
theorem dX9_nearestTo_8 : decode cX9_nearestTo 8 = .ok (.aload_n 0, 1) := by decide +kernel
theorem dX9_nearestTo_9 : decode cX9_nearestTo 9 = .ok (.getfield 24, 3) := by decide +kernel
theorem dX9_nearestTo_12 : decode cX9_nearestTo 12 = .ok (.if_icmp .ge 33, 3) := by decide +kernel
theorem dX9_nearestTo_15 : decode cX9_nearestTo 15 = .ok (.aload_n 0, 1) := by decide +kernel
theorem dX9_nearestTo_16 : decode cX9_nearestTo 16 = .ok (.iload 6, 2) := by decide +kernel
theorem dX9_nearestTo_18 : decode cX9_nearestTo 18 = .ok (.lload_n 1, 1) := by decide +kernel
theorem dX9_nearestTo_19 : decode cX9_nearestTo 19 = .ok (.lload_n 3, 1) := by decide +kernel
theorem dX9_nearestTo_20 : decode cX9_nearestTo 20 = .ok (.invokevirtual 69, 3) := by decide +kernel
theorem dX9_nearestTo_23 : decode cX9_nearestTo 23 = .ok (.aload_n 0, 1) := by decide +kernel
theorem dX9_nearestTo_24 : decode cX9_nearestTo 24 = .ok (.iload 5, 2) := by decide +kernel
theorem dX9_nearestTo_26 : decode cX9_nearestTo 26 = .ok (.lload_n 1, 1) := by decide +kernel
theorem dX9_nearestTo_27 : decode cX9_nearestTo 27 = .ok (.lload_n 3, 1) := by decide +kernel
theorem dX9_nearestTo_28 : decode cX9_nearestTo 28 = .ok (.invokevirtual 69, 3) := by decide +kernel
theorem dX9_nearestTo_31 : decode cX9_nearestTo 31 = .ok (.lcmp, 1) := by decide +kernel
theorem dX9_nearestTo_32 : decode cX9_nearestTo 32 = .ok (.ifCond .ge 7, 3) := by decide +kernel
theorem dX9_nearestTo_35 : decode cX9_nearestTo 35 = .ok (.iload 6, 2) := by decide +kernel
theorem dX9_nearestTo_37 : decode cX9_nearestTo 37 = .ok (.istore 5, 2) := by decide +kernel
theorem dX9_nearestTo_39 : decode cX9_nearestTo 39 = .ok (.iinc 6 1, 3) := by decide +kernel
theorem dX9_nearestTo_42 : decode cX9_nearestTo 42 = .ok (.goto (-36), 3) := by decide +kernel
theorem dX9_nearestTo_45 : decode cX9_nearestTo 45 = .ok (.iload 5, 2) := by decide +kernel
theorem dX9_nearestTo_47 : decode cX9_nearestTo 47 = .ok (.ireturn, 1) := by decide +kernel
theorem dX9_squaresTo_0 : decode cX9_squaresTo 0 = .ok (.aload_n 0, 1) := by decide +kernel
theorem dX9_squaresTo_1 : decode cX9_squaresTo 1 = .ok (.iload_n 1, 1) := by decide +kernel
theorem dX9_squaresTo_2 : decode cX9_squaresTo 2 = .ok (.invokevirtual 54, 3) := by decide +kernel
theorem dX9_squaresTo_5 : decode cX9_squaresTo 5 = .ok (.ifCond .ne 5, 3) := by decide +kernel
theorem dX9_squaresTo_8 : decode cX9_squaresTo 8 = .ok (.lconst 0, 1) := by decide +kernel
theorem dX9_squaresTo_9 : decode cX9_squaresTo 9 = .ok (.lreturn, 1) := by decide +kernel
theorem dX9_squaresTo_10 : decode cX9_squaresTo 10 = .ok (.aload_n 0, 1) := by decide +kernel
theorem dX9_squaresTo_11 : decode cX9_squaresTo 11 = .ok (.getfield 9, 3) := by decide +kernel
theorem dX9_squaresTo_14 : decode cX9_squaresTo 14 = .ok (.iload_n 1, 1) := by decide +kernel
theorem dX9_squaresTo_15 : decode cX9_squaresTo 15 = .ok (.iaload, 1) := by decide +kernel
theorem dX9_squaresTo_16 : decode cX9_squaresTo 16 = .ok (.i2l, 1) := by decide +kernel
theorem dX9_squaresTo_17 : decode cX9_squaresTo 17 = .ok (.lload_n 2, 1) := by decide +kernel
theorem dX9_squaresTo_18 : decode cX9_squaresTo 18 = .ok (.lsub, 1) := by decide +kernel
theorem dX9_squaresTo_19 : decode cX9_squaresTo 19 = .ok (.lstore 6, 2) := by decide +kernel
theorem dX9_squaresTo_21 : decode cX9_squaresTo 21 = .ok (.aload_n 0, 1) := by decide +kernel
theorem dX9_squaresTo_22 : decode cX9_squaresTo 22 = .ok (.getfield 15, 3) := by decide +kernel
theorem dX9_squaresTo_25 : decode cX9_squaresTo 25 = .ok (.iload_n 1, 1) := by decide +kernel
theorem dX9_squaresTo_26 : decode cX9_squaresTo 26 = .ok (.iaload, 1) := by decide +kernel
theorem dX9_squaresTo_27 : decode cX9_squaresTo 27 = .ok (.i2l, 1) := by decide +kernel
theorem dX9_squaresTo_28 : decode cX9_squaresTo 28 = .ok (.lload 4, 2) := by decide +kernel
theorem dX9_squaresTo_30 : decode cX9_squaresTo 30 = .ok (.lsub, 1) := by decide +kernel
theorem dX9_squaresTo_31 : decode cX9_squaresTo 31 = .ok (.lstore 8, 2) := by decide +kernel
theorem dX9_squaresTo_33 : decode cX9_squaresTo 33 = .ok (.lload 6, 2) := by decide +kernel
theorem dX9_squaresTo_35 : decode cX9_squaresTo 35 = .ok (.lload 6, 2) := by decide +kernel
theorem dX9_squaresTo_37 : decode cX9_squaresTo 37 = .ok (.lmul, 1) := by decide +kernel
theorem dX9_squaresTo_38 : decode cX9_squaresTo 38 = .ok (.lload 8, 2) := by decide +kernel
theorem dX9_squaresTo_40 : decode cX9_squaresTo 40 = .ok (.lload 8, 2) := by decide +kernel
theorem dX9_squaresTo_42 : decode cX9_squaresTo 42 = .ok (.lmul, 1) := by decide +kernel
theorem dX9_squaresTo_43 : decode cX9_squaresTo 43 = .ok (.ladd, 1) := by decide +kernel
theorem dX9_squaresTo_44 : decode cX9_squaresTo 44 = .ok (.lreturn, 1) := by decide +kernel
theorem dX9_copyFrom_0 : decode cX9_copyFrom 0 = .ok (.aload_n 0, 1) := by decide +kernel
theorem dX9_copyFrom_1 : decode cX9_copyFrom 1 = .ok (.aload_n 1, 1) := by decide +kernel
theorem dX9_copyFrom_2 : decode cX9_copyFrom 2 = .ok (.getfield 28, 3) := by decide +kernel
theorem dX9_copyFrom_5 : decode cX9_copyFrom 5 = .ok (.aload_n 1, 1) := by decide +kernel
theorem dX9_copyFrom_6 : decode cX9_copyFrom 6 = .ok (.getfield 31, 3) := by decide +kernel
theorem dX9_copyFrom_9 : decode cX9_copyFrom 9 = .ok (.aload_n 1, 1) := by decide +kernel
theorem dX9_copyFrom_10 : decode cX9_copyFrom 10 = .ok (.getfield 38, 3) := by decide +kernel
theorem dX9_copyFrom_13 : decode cX9_copyFrom 13 = .ok (.aload_n 1, 1) := by decide +kernel
theorem dX9_copyFrom_14 : decode cX9_copyFrom 14 = .ok (.getfield 41, 3) := by decide +kernel
theorem dX9_copyFrom_17 : decode cX9_copyFrom 17 = .ok (.invokevirtual 73, 3) := by decide +kernel
theorem dX9_copyFrom_20 : decode cX9_copyFrom 20 = .ok (.aload_n 0, 1) := by decide +kernel
theorem dX9_copyFrom_21 : decode cX9_copyFrom 21 = .ok (.aload_n 1, 1) := by decide +kernel
theorem dX9_copyFrom_22 : decode cX9_copyFrom 22 = .ok (.getfield 34, 3) := by decide +kernel
theorem dX9_copyFrom_25 : decode cX9_copyFrom 25 = .ok (.putfield 34, 3) := by decide +kernel
theorem dX9_copyFrom_28 : decode cX9_copyFrom 28 = .ok (.aload_n 0, 1) := by decide +kernel
theorem dX9_copyFrom_29 : decode cX9_copyFrom 29 = .ok (.aload_n 1, 1) := by decide +kernel
theorem dX9_copyFrom_30 : decode cX9_copyFrom 30 = .ok (.getfield 24, 3) := by decide +kernel
theorem dX9_copyFrom_33 : decode cX9_copyFrom 33 = .ok (.putfield 24, 3) := by decide +kernel
theorem dX9_copyFrom_36 : decode cX9_copyFrom 36 = .ok (.iconst 0, 1) := by decide +kernel
theorem dX9_copyFrom_37 : decode cX9_copyFrom 37 = .ok (.istore_n 2, 1) := by decide +kernel
theorem dX9_copyFrom_38 : decode cX9_copyFrom 38 = .ok (.iload_n 2, 1) := by decide +kernel
theorem dX9_copyFrom_39 : decode cX9_copyFrom 39 = .ok (.aload_n 0, 1) := by decide +kernel
theorem dX9_copyFrom_40 : decode cX9_copyFrom 40 = .ok (.getfield 24, 3) := by decide +kernel
theorem dX9_copyFrom_43 : decode cX9_copyFrom 43 = .ok (.if_icmp .ge 57, 3) := by decide +kernel
theorem dX9_copyFrom_46 : decode cX9_copyFrom 46 = .ok (.aload_n 0, 1) := by decide +kernel
theorem dX9_copyFrom_47 : decode cX9_copyFrom 47 = .ok (.getfield 9, 3) := by decide +kernel
theorem dX9_copyFrom_50 : decode cX9_copyFrom 50 = .ok (.iload_n 2, 1) := by decide +kernel
theorem dX9_copyFrom_51 : decode cX9_copyFrom 51 = .ok (.aload_n 1, 1) := by decide +kernel
theorem dX9_copyFrom_52 : decode cX9_copyFrom 52 = .ok (.getfield 9, 3) := by decide +kernel
theorem dX9_copyFrom_55 : decode cX9_copyFrom 55 = .ok (.iload_n 2, 1) := by decide +kernel
theorem dX9_copyFrom_56 : decode cX9_copyFrom 56 = .ok (.iaload, 1) := by decide +kernel
theorem dX9_copyFrom_57 : decode cX9_copyFrom 57 = .ok (.iastore, 1) := by decide +kernel
theorem dX9_copyFrom_58 : decode cX9_copyFrom 58 = .ok (.aload_n 0, 1) := by decide +kernel
theorem dX9_copyFrom_59 : decode cX9_copyFrom 59 = .ok (.getfield 15, 3) := by decide +kernel
theorem dX9_copyFrom_62 : decode cX9_copyFrom 62 = .ok (.iload_n 2, 1) := by decide +kernel
theorem dX9_copyFrom_63 : decode cX9_copyFrom 63 = .ok (.aload_n 1, 1) := by decide +kernel
theorem dX9_copyFrom_64 : decode cX9_copyFrom 64 = .ok (.getfield 15, 3) := by decide +kernel
theorem dX9_copyFrom_67 : decode cX9_copyFrom 67 = .ok (.iload_n 2, 1) := by decide +kernel
theorem dX9_copyFrom_68 : decode cX9_copyFrom 68 = .ok (.iaload, 1) := by decide +kernel
theorem dX9_copyFrom_69 : decode cX9_copyFrom 69 = .ok (.iastore, 1) := by decide +kernel
theorem dX9_copyFrom_70 : decode cX9_copyFrom 70 = .ok (.aload_n 0, 1) := by decide +kernel
theorem dX9_copyFrom_71 : decode cX9_copyFrom 71 = .ok (.getfield 18, 3) := by decide +kernel
theorem dX9_copyFrom_74 : decode cX9_copyFrom 74 = .ok (.iload_n 2, 1) := by decide +kernel
theorem dX9_copyFrom_75 : decode cX9_copyFrom 75 = .ok (.aload_n 1, 1) := by decide +kernel
theorem dX9_copyFrom_76 : decode cX9_copyFrom 76 = .ok (.getfield 18, 3) := by decide +kernel
theorem dX9_copyFrom_79 : decode cX9_copyFrom 79 = .ok (.iload_n 2, 1) := by decide +kernel
theorem dX9_copyFrom_80 : decode cX9_copyFrom 80 = .ok (.iaload, 1) := by decide +kernel
theorem dX9_copyFrom_81 : decode cX9_copyFrom 81 = .ok (.iastore, 1) := by decide +kernel
theorem dX9_copyFrom_82 : decode cX9_copyFrom 82 = .ok (.aload_n 0, 1) := by decide +kernel
theorem dX9_copyFrom_83 : decode cX9_copyFrom 83 = .ok (.getfield 21, 3) := by decide +kernel
theorem dX9_copyFrom_86 : decode cX9_copyFrom 86 = .ok (.iload_n 2, 1) := by decide +kernel
theorem dX9_copyFrom_87 : decode cX9_copyFrom 87 = .ok (.aload_n 1, 1) := by decide +kernel
theorem dX9_copyFrom_88 : decode cX9_copyFrom 88 = .ok (.getfield 21, 3) := by decide +kernel
theorem dX9_copyFrom_91 : decode cX9_copyFrom 91 = .ok (.iload_n 2, 1) := by decide +kernel
theorem dX9_copyFrom_92 : decode cX9_copyFrom 92 = .ok (.iaload, 1) := by decide +kernel
theorem dX9_copyFrom_93 : decode cX9_copyFrom 93 = .ok (.iastore, 1) := by decide +kernel
theorem dX9_copyFrom_94 : decode cX9_copyFrom 94 = .ok (.iinc 2 1, 3) := by decide +kernel
theorem dX9_copyFrom_97 : decode cX9_copyFrom 97 = .ok (.goto (-59), 3) := by decide +kernel
theorem dX9_copyFrom_100 : decode cX9_copyFrom 100 = .ok (.return_, 1) := by decide +kernel
theorem dX10_init_0 : decode cX10_init 0 = .ok (.aload_n 0, 1) := by decide +kernel
theorem dX10_init_1 : decode cX10_init 1 = .ok (.invokespecial 3, 3) := by decide +kernel
theorem dX10_init_4 : decode cX10_init 4 = .ok (.aload_n 0, 1) := by decide +kernel
theorem dX10_init_5 : decode cX10_init 5 = .ok (.iconst 5, 1) := by decide +kernel
theorem dX10_init_6 : decode cX10_init 6 = .ok (.anewarray 9, 3) := by decide +kernel
theorem dX10_init_9 : decode cX10_init 9 = .ok (.putfield 11, 3) := by decide +kernel
theorem dX10_init_12 : decode cX10_init 12 = .ok (.aload_n 0, 1) := by decide +kernel
theorem dX10_init_13 : decode cX10_init 13 = .ok (.iconst 5, 1) := by decide +kernel
theorem dX10_init_14 : decode cX10_init 14 = .ok (.newarray .boolean, 2) := by decide +kernel
theorem dX10_init_16 : decode cX10_init 16 = .ok (.putfield 17, 3) := by decide +kernel
theorem dX10_init_19 : decode cX10_init 19 = .ok (.aload_n 0, 1) := by decide +kernel
theorem dX10_init_20 : decode cX10_init 20 = .ok (.iconst 5, 1) := by decide +kernel
theorem dX10_init_21 : decode cX10_init 21 = .ok (.newarray .int, 2) := by decide +kernel
theorem dX10_init_23 : decode cX10_init 23 = .ok (.putfield 21, 3) := by decide +kernel
theorem dX10_init_26 : decode cX10_init 26 = .ok (.iconst 0, 1) := by decide +kernel
theorem dX10_init_27 : decode cX10_init 27 = .ok (.istore_n 1, 1) := by decide +kernel
theorem dX10_init_28 : decode cX10_init 28 = .ok (.iload_n 1, 1) := by decide +kernel
theorem dX10_init_29 : decode cX10_init 29 = .ok (.iconst 5, 1) := by decide +kernel
theorem dX10_init_30 : decode cX10_init 30 = .ok (.if_icmp .ge 22, 3) := by decide +kernel
theorem dX10_init_33 : decode cX10_init 33 = .ok (.aload_n 0, 1) := by decide +kernel
theorem dX10_init_34 : decode cX10_init 34 = .ok (.getfield 11, 3) := by decide +kernel
theorem dX10_init_37 : decode cX10_init 37 = .ok (.iload_n 1, 1) := by decide +kernel
theorem dX10_init_38 : decode cX10_init 38 = .ok (.new 9, 3) := by decide +kernel
theorem dX10_init_41 : decode cX10_init 41 = .ok (.dup, 1) := by decide +kernel
theorem dX10_init_42 : decode cX10_init 42 = .ok (.invokespecial 25, 3) := by decide +kernel
theorem dX10_init_45 : decode cX10_init 45 = .ok (.aastore, 1) := by decide +kernel
theorem dX10_init_46 : decode cX10_init 46 = .ok (.iinc 1 1, 3) := by decide +kernel
theorem dX10_init_49 : decode cX10_init 49 = .ok (.goto (-21), 3) := by decide +kernel
theorem dX10_init_52 : decode cX10_init 52 = .ok (.return_, 1) := by decide +kernel
theorem dX10_at_0 : decode cX10_at 0 = .ok (.iload_n 1, 1) := by decide +kernel
theorem dX10_at_1 : decode cX10_at 1 = .ok (.ifCond .lt 20, 3) := by decide +kernel
theorem dX10_at_4 : decode cX10_at 4 = .ok (.iload_n 1, 1) := by decide +kernel
theorem dX10_at_5 : decode cX10_at 5 = .ok (.aload_n 0, 1) := by decide +kernel
theorem dX10_at_6 : decode cX10_at 6 = .ok (.getfield 26, 3) := by decide +kernel
theorem dX10_at_9 : decode cX10_at 9 = .ok (.if_icmp .ge 12, 3) := by decide +kernel
theorem dX10_at_12 : decode cX10_at 12 = .ok (.aload_n 0, 1) := by decide +kernel
theorem dX10_at_13 : decode cX10_at 13 = .ok (.getfield 11, 3) := by decide +kernel
theorem dX10_at_16 : decode cX10_at 16 = .ok (.iload_n 1, 1) := by decide +kernel
theorem dX10_at_17 : decode cX10_at 17 = .ok (.aaload, 1) := by decide +kernel
theorem dX10_at_18 : decode cX10_at 18 = .ok (.goto 4, 3) := by decide +kernel
theorem dX10_at_21 : decode cX10_at 21 = .ok (.aconst_null, 1) := by decide +kernel
theorem dX10_at_22 : decode cX10_at 22 = .ok (.areturn, 1) := by decide +kernel
theorem dX10_isFull_0 : decode cX10_isFull 0 = .ok (.aload_n 0, 1) := by decide +kernel
theorem dX10_isFull_1 : decode cX10_isFull 1 = .ok (.getfield 26, 3) := by decide +kernel
theorem dX10_isFull_4 : decode cX10_isFull 4 = .ok (.iconst 5, 1) := by decide +kernel
theorem dX10_isFull_5 : decode cX10_isFull 5 = .ok (.if_icmp .lt 7, 3) := by decide +kernel
theorem dX10_isFull_8 : decode cX10_isFull 8 = .ok (.iconst 1, 1) := by decide +kernel
theorem dX10_isFull_9 : decode cX10_isFull 9 = .ok (.goto 4, 3) := by decide +kernel
theorem dX10_isFull_12 : decode cX10_isFull 12 = .ok (.iconst 0, 1) := by decide +kernel
theorem dX10_isFull_13 : decode cX10_isFull 13 = .ok (.ireturn, 1) := by decide +kernel
theorem dX10_addOne_0 : decode cX10_addOne 0 = .ok (.aload_n 0, 1) := by decide +kernel
theorem dX10_addOne_1 : decode cX10_addOne 1 = .ok (.invokevirtual 30, 3) := by decide +kernel
theorem dX10_addOne_4 : decode cX10_addOne 4 = .ok (.ifCond .eq 5, 3) := by decide +kernel
theorem dX10_addOne_7 : decode cX10_addOne 7 = .ok (.aconst_null, 1) := by decide +kernel
theorem dX10_addOne_8 : decode cX10_addOne 8 = .ok (.areturn, 1) := by decide +kernel
theorem dX10_addOne_9 : decode cX10_addOne 9 = .ok (.aload_n 0, 1) := by decide +kernel
theorem dX10_addOne_10 : decode cX10_addOne 10 = .ok (.dup, 1) := by decide +kernel
theorem dX10_addOne_11 : decode cX10_addOne 11 = .ok (.getfield 26, 3) := by decide +kernel
theorem dX10_addOne_14 : decode cX10_addOne 14 = .ok (.iconst 1, 1) := by decide +kernel
theorem dX10_addOne_15 : decode cX10_addOne 15 = .ok (.iadd, 1) := by decide +kernel
theorem dX10_addOne_16 : decode cX10_addOne 16 = .ok (.putfield 26, 3) := by decide +kernel
theorem dX10_addOne_19 : decode cX10_addOne 19 = .ok (.aload_n 0, 1) := by decide +kernel
theorem dX10_addOne_20 : decode cX10_addOne 20 = .ok (.getfield 11, 3) := by decide +kernel
theorem dX10_addOne_23 : decode cX10_addOne 23 = .ok (.aload_n 0, 1) := by decide +kernel
theorem dX10_addOne_24 : decode cX10_addOne 24 = .ok (.getfield 26, 3) := by decide +kernel
theorem dX10_addOne_27 : decode cX10_addOne 27 = .ok (.iconst 1, 1) := by decide +kernel
theorem dX10_addOne_28 : decode cX10_addOne 28 = .ok (.isub, 1) := by decide +kernel
theorem dX10_addOne_29 : decode cX10_addOne 29 = .ok (.aaload, 1) := by decide +kernel
theorem dX10_addOne_30 : decode cX10_addOne 30 = .ok (.areturn, 1) := by decide +kernel
theorem dX10_clear_0 : decode cX10_clear 0 = .ok (.aload_n 0, 1) := by decide +kernel
theorem dX10_clear_1 : decode cX10_clear 1 = .ok (.iconst 0, 1) := by decide +kernel
theorem dX10_clear_2 : decode cX10_clear 2 = .ok (.putfield 26, 3) := by decide +kernel
theorem dX10_clear_5 : decode cX10_clear 5 = .ok (.return_, 1) := by decide +kernel
theorem dX10_markFamily_0 : decode cX10_markFamily 0 = .ok (.iconst 0, 1) := by decide +kernel
theorem dX10_markFamily_1 : decode cX10_markFamily 1 = .ok (.istore_n 2, 1) := by decide +kernel
theorem dX10_markFamily_2 : decode cX10_markFamily 2 = .ok (.iconst 0, 1) := by decide +kernel
theorem dX10_markFamily_3 : decode cX10_markFamily 3 = .ok (.istore_n 3, 1) := by decide +kernel
theorem dX10_markFamily_4 : decode cX10_markFamily 4 = .ok (.iload_n 3, 1) := by decide +kernel
theorem dX10_markFamily_5 : decode cX10_markFamily 5 = .ok (.aload_n 0, 1) := by decide +kernel
theorem dX10_markFamily_6 : decode cX10_markFamily 6 = .ok (.getfield 26, 3) := by decide +kernel
theorem dX10_markFamily_9 : decode cX10_markFamily 9 = .ok (.if_icmp .ge 69, 3) := by decide +kernel
theorem dX10_markFamily_12 : decode cX10_markFamily 12 = .ok (.aload_n 0, 1) := by decide +kernel
theorem dX10_markFamily_13 : decode cX10_markFamily 13 = .ok (.getfield 11, 3) := by decide +kernel
theorem dX10_markFamily_16 : decode cX10_markFamily 16 = .ok (.iload_n 3, 1) := by decide +kernel
theorem dX10_markFamily_17 : decode cX10_markFamily 17 = .ok (.aaload, 1) := by decide +kernel
theorem dX10_markFamily_18 : decode cX10_markFamily 18 = .ok (.getfield 34, 3) := by decide +kernel
theorem dX10_markFamily_21 : decode cX10_markFamily 21 = .ok (.istore 4, 2) := by decide +kernel
theorem dX10_markFamily_23 : decode cX10_markFamily 23 = .ok (.aload_n 0, 1) := by decide +kernel
theorem dX10_markFamily_24 : decode cX10_markFamily 24 = .ok (.getfield 17, 3) := by decide +kernel
theorem dX10_markFamily_27 : decode cX10_markFamily 27 = .ok (.iload_n 3, 1) := by decide +kernel
theorem dX10_markFamily_28 : decode cX10_markFamily 28 = .ok (.iload_n 3, 1) := by decide +kernel
theorem dX10_markFamily_29 : decode cX10_markFamily 29 = .ok (.iload_n 1, 1) := by decide +kernel
theorem dX10_markFamily_30 : decode cX10_markFamily 30 = .ok (.if_icmp .eq 24, 3) := by decide +kernel
theorem dX10_markFamily_33 : decode cX10_markFamily 33 = .ok (.iload 4, 2) := by decide +kernel
theorem dX10_markFamily_35 : decode cX10_markFamily 35 = .ok (.ifCond .lt 23, 3) := by decide +kernel
theorem dX10_markFamily_38 : decode cX10_markFamily 38 = .ok (.iload 4, 2) := by decide +kernel
theorem dX10_markFamily_40 : decode cX10_markFamily 40 = .ok (.iload_n 3, 1) := by decide +kernel
theorem dX10_markFamily_41 : decode cX10_markFamily 41 = .ok (.if_icmp .ge 17, 3) := by decide +kernel
theorem dX10_markFamily_44 : decode cX10_markFamily 44 = .ok (.aload_n 0, 1) := by decide +kernel
theorem dX10_markFamily_45 : decode cX10_markFamily 45 = .ok (.getfield 17, 3) := by decide +kernel
theorem dX10_markFamily_48 : decode cX10_markFamily 48 = .ok (.iload 4, 2) := by decide +kernel
theorem dX10_markFamily_50 : decode cX10_markFamily 50 = .ok (.baload, 1) := by decide +kernel
theorem dX10_markFamily_51 : decode cX10_markFamily 51 = .ok (.ifCond .eq 7, 3) := by decide +kernel
theorem dX10_markFamily_54 : decode cX10_markFamily 54 = .ok (.iconst 1, 1) := by decide +kernel
theorem dX10_markFamily_55 : decode cX10_markFamily 55 = .ok (.goto 4, 3) := by decide +kernel
theorem dX10_markFamily_58 : decode cX10_markFamily 58 = .ok (.iconst 0, 1) := by decide +kernel
theorem dX10_markFamily_59 : decode cX10_markFamily 59 = .ok (.bastore, 1) := by decide +kernel
theorem dX10_markFamily_60 : decode cX10_markFamily 60 = .ok (.aload_n 0, 1) := by decide +kernel
theorem dX10_markFamily_61 : decode cX10_markFamily 61 = .ok (.getfield 17, 3) := by decide +kernel
theorem dX10_markFamily_64 : decode cX10_markFamily 64 = .ok (.iload_n 3, 1) := by decide +kernel
theorem dX10_markFamily_65 : decode cX10_markFamily 65 = .ok (.baload, 1) := by decide +kernel
theorem dX10_markFamily_66 : decode cX10_markFamily 66 = .ok (.ifCond .eq 6, 3) := by decide +kernel
theorem dX10_markFamily_69 : decode cX10_markFamily 69 = .ok (.iinc 2 1, 3) := by decide +kernel
theorem dX10_markFamily_72 : decode cX10_markFamily 72 = .ok (.iinc 3 1, 3) := by decide +kernel
theorem dX10_markFamily_75 : decode cX10_markFamily 75 = .ok (.goto (-71), 3) := by decide +kernel
theorem dX10_markFamily_78 : decode cX10_markFamily 78 = .ok (.iload_n 2, 1) := by decide +kernel
theorem dX10_markFamily_79 : decode cX10_markFamily 79 = .ok (.ireturn, 1) := by decide +kernel
theorem dX10_removeFamily_0 : decode cX10_removeFamily 0 = .ok (.aload_n 0, 1) := by decide +kernel
theorem dX10_removeFamily_1 : decode cX10_removeFamily 1 = .ok (.iload_n 1, 1) := by decide +kernel
theorem dX10_removeFamily_2 : decode cX10_removeFamily 2 = .ok (.invokevirtual 37, 3) := by decide +kernel
theorem dX10_removeFamily_5 : decode cX10_removeFamily 5 = .ok (.pop, 1) := by decide +kernel
theorem dX10_removeFamily_6 : decode cX10_removeFamily 6 = .ok (.iconst 0, 1) := by decide +kernel
theorem dX10_removeFamily_7 : decode cX10_removeFamily 7 = .ok (.istore_n 2, 1) := by decide +kernel
theorem dX10_removeFamily_8 : decode cX10_removeFamily 8 = .ok (.iconst 0, 1) := by decide +kernel
theorem dX10_removeFamily_9 : decode cX10_removeFamily 9 = .ok (.istore_n 3, 1) := by decide +kernel
theorem dX10_removeFamily_10 : decode cX10_removeFamily 10 = .ok (.iload_n 3, 1) := by decide +kernel
theorem dX10_removeFamily_11 : decode cX10_removeFamily 11 = .ok (.aload_n 0, 1) := by decide +kernel
theorem dX10_removeFamily_12 : decode cX10_removeFamily 12 = .ok (.getfield 26, 3) := by decide +kernel
theorem dX10_removeFamily_15 : decode cX10_removeFamily 15 = .ok (.if_icmp .ge 91, 3) := by decide +kernel
theorem dX10_removeFamily_18 : decode cX10_removeFamily 18 = .ok (.aload_n 0, 1) := by decide +kernel
theorem dX10_removeFamily_19 : decode cX10_removeFamily 19 = .ok (.getfield 17, 3) := by decide +kernel
theorem dX10_removeFamily_22 : decode cX10_removeFamily 22 = .ok (.iload_n 3, 1) := by decide +kernel
theorem dX10_removeFamily_23 : decode cX10_removeFamily 23 = .ok (.baload, 1) := by decide +kernel
theorem dX10_removeFamily_24 : decode cX10_removeFamily 24 = .ok (.ifCond .eq 6, 3) := by decide +kernel
theorem dX10_removeFamily_27 : decode cX10_removeFamily 27 = .ok (.goto 73, 3) := by decide +kernel
theorem dX10_removeFamily_30 : decode cX10_removeFamily 30 = .ok (.aload_n 0, 1) := by decide +kernel
theorem dX10_removeFamily_31 : decode cX10_removeFamily 31 = .ok (.getfield 21, 3) := by decide +kernel
theorem dX10_removeFamily_34 : decode cX10_removeFamily 34 = .ok (.iload_n 3, 1) := by decide +kernel
theorem dX10_removeFamily_35 : decode cX10_removeFamily 35 = .ok (.iload_n 2, 1) := by decide +kernel
theorem dX10_removeFamily_36 : decode cX10_removeFamily 36 = .ok (.iastore, 1) := by decide +kernel
theorem dX10_removeFamily_37 : decode cX10_removeFamily 37 = .ok (.aload_n 0, 1) := by decide +kernel
theorem dX10_removeFamily_38 : decode cX10_removeFamily 38 = .ok (.getfield 11, 3) := by decide +kernel
theorem dX10_removeFamily_41 : decode cX10_removeFamily 41 = .ok (.iload_n 3, 1) := by decide +kernel
theorem dX10_removeFamily_42 : decode cX10_removeFamily 42 = .ok (.aaload, 1) := by decide +kernel
theorem dX10_removeFamily_43 : decode cX10_removeFamily 43 = .ok (.astore 4, 2) := by decide +kernel
theorem dX10_removeFamily_45 : decode cX10_removeFamily 45 = .ok (.aload 4, 2) := by decide +kernel
theorem dX10_removeFamily_47 : decode cX10_removeFamily 47 = .ok (.getfield 34, 3) := by decide +kernel
theorem dX10_removeFamily_50 : decode cX10_removeFamily 50 = .ok (.ifCond .lt 27, 3) := by decide +kernel
theorem dX10_removeFamily_53 : decode cX10_removeFamily 53 = .ok (.aload 4, 2) := by decide +kernel
theorem dX10_removeFamily_55 : decode cX10_removeFamily 55 = .ok (.getfield 34, 3) := by decide +kernel
theorem dX10_removeFamily_58 : decode cX10_removeFamily 58 = .ok (.iload_n 3, 1) := by decide +kernel
theorem dX10_removeFamily_59 : decode cX10_removeFamily 59 = .ok (.if_icmp .ge 18, 3) := by decide +kernel
theorem dX10_removeFamily_62 : decode cX10_removeFamily 62 = .ok (.aload 4, 2) := by decide +kernel
theorem dX10_removeFamily_64 : decode cX10_removeFamily 64 = .ok (.aload_n 0, 1) := by decide +kernel
theorem dX10_removeFamily_65 : decode cX10_removeFamily 65 = .ok (.getfield 21, 3) := by decide +kernel
theorem dX10_removeFamily_68 : decode cX10_removeFamily 68 = .ok (.aload 4, 2) := by decide +kernel
theorem dX10_removeFamily_70 : decode cX10_removeFamily 70 = .ok (.getfield 34, 3) := by decide +kernel
theorem dX10_removeFamily_73 : decode cX10_removeFamily 73 = .ok (.iaload, 1) := by decide +kernel
theorem dX10_removeFamily_74 : decode cX10_removeFamily 74 = .ok (.putfield 34, 3) := by decide +kernel
theorem dX10_removeFamily_77 : decode cX10_removeFamily 77 = .ok (.aload_n 0, 1) := by decide +kernel
theorem dX10_removeFamily_78 : decode cX10_removeFamily 78 = .ok (.getfield 11, 3) := by decide +kernel
theorem dX10_removeFamily_81 : decode cX10_removeFamily 81 = .ok (.iload_n 3, 1) := by decide +kernel
theorem dX10_removeFamily_82 : decode cX10_removeFamily 82 = .ok (.aload_n 0, 1) := by decide +kernel
theorem dX10_removeFamily_83 : decode cX10_removeFamily 83 = .ok (.getfield 11, 3) := by decide +kernel
theorem dX10_removeFamily_86 : decode cX10_removeFamily 86 = .ok (.iload_n 2, 1) := by decide +kernel
theorem dX10_removeFamily_87 : decode cX10_removeFamily 87 = .ok (.aaload, 1) := by decide +kernel
theorem dX10_removeFamily_88 : decode cX10_removeFamily 88 = .ok (.aastore, 1) := by decide +kernel
theorem dX10_removeFamily_89 : decode cX10_removeFamily 89 = .ok (.aload_n 0, 1) := by decide +kernel
theorem dX10_removeFamily_90 : decode cX10_removeFamily 90 = .ok (.getfield 11, 3) := by decide +kernel
theorem dX10_removeFamily_93 : decode cX10_removeFamily 93 = .ok (.iload_n 2, 1) := by decide +kernel
theorem dX10_removeFamily_94 : decode cX10_removeFamily 94 = .ok (.aload 4, 2) := by decide +kernel
theorem dX10_removeFamily_96 : decode cX10_removeFamily 96 = .ok (.aastore, 1) := by decide +kernel
theorem dX10_removeFamily_97 : decode cX10_removeFamily 97 = .ok (.iinc 2 1, 3) := by decide +kernel
theorem dX10_removeFamily_100 : decode cX10_removeFamily 100 = .ok (.iinc 3 1, 3) := by decide +kernel
theorem dX10_removeFamily_103 : decode cX10_removeFamily 103 = .ok (.goto (-93), 3) := by decide +kernel
theorem dX10_removeFamily_106 : decode cX10_removeFamily 106 = .ok (.aload_n 0, 1) := by decide +kernel
theorem dX10_removeFamily_107 : decode cX10_removeFamily 107 = .ok (.iload_n 2, 1) := by decide +kernel
theorem dX10_removeFamily_108 : decode cX10_removeFamily 108 = .ok (.putfield 26, 3) := by decide +kernel
theorem dX10_removeFamily_111 : decode cX10_removeFamily 111 = .ok (.return_, 1) := by decide +kernel
theorem dX10_places_0 : decode cX10_places 0 = .ok (.iconst 0, 1) := by decide +kernel
theorem dX10_places_1 : decode cX10_places 1 = .ok (.istore_n 1, 1) := by decide +kernel
theorem dX10_places_2 : decode cX10_places 2 = .ok (.iconst 0, 1) := by decide +kernel
theorem dX10_places_3 : decode cX10_places 3 = .ok (.istore_n 2, 1) := by decide +kernel
theorem dX10_places_4 : decode cX10_places 4 = .ok (.iload_n 2, 1) := by decide +kernel
theorem dX10_places_5 : decode cX10_places 5 = .ok (.aload_n 0, 1) := by decide +kernel
theorem dX10_places_6 : decode cX10_places 6 = .ok (.getfield 26, 3) := by decide +kernel
theorem dX10_places_9 : decode cX10_places 9 = .ok (.if_icmp .ge 21, 3) := by decide +kernel
theorem dX10_places_12 : decode cX10_places 12 = .ok (.iload_n 1, 1) := by decide +kernel
theorem dX10_places_13 : decode cX10_places 13 = .ok (.aload_n 0, 1) := by decide +kernel
theorem dX10_places_14 : decode cX10_places 14 = .ok (.getfield 11, 3) := by decide +kernel
theorem dX10_places_17 : decode cX10_places 17 = .ok (.iload_n 2, 1) := by decide +kernel
theorem dX10_places_18 : decode cX10_places 18 = .ok (.aaload, 1) := by decide +kernel
theorem dX10_places_19 : decode cX10_places 19 = .ok (.getfield 41, 3) := by decide +kernel
theorem dX10_places_22 : decode cX10_places 22 = .ok (.iadd, 1) := by decide +kernel
theorem dX10_places_23 : decode cX10_places 23 = .ok (.istore_n 1, 1) := by decide +kernel
theorem dX10_places_24 : decode cX10_places 24 = .ok (.iinc 2 1, 3) := by decide +kernel
theorem dX10_places_27 : decode cX10_places 27 = .ok (.goto (-23), 3) := by decide +kernel
theorem dX10_places_30 : decode cX10_places 30 = .ok (.iload_n 1, 1) := by decide +kernel
theorem dX10_places_31 : decode cX10_places 31 = .ok (.ireturn, 1) := by decide +kernel
theorem dX10_placesOfKind_0 : decode cX10_placesOfKind 0 = .ok (.iconst 0, 1) := by decide +kernel
theorem dX10_placesOfKind_1 : decode cX10_placesOfKind 1 = .ok (.istore_n 2, 1) := by decide +kernel
theorem dX10_placesOfKind_2 : decode cX10_placesOfKind 2 = .ok (.iconst 0, 1) := by decide +kernel
theorem dX10_placesOfKind_3 : decode cX10_placesOfKind 3 = .ok (.istore_n 3, 1) := by decide +kernel
theorem dX10_placesOfKind_4 : decode cX10_placesOfKind 4 = .ok (.iload_n 3, 1) := by decide +kernel
theorem dX10_placesOfKind_5 : decode cX10_placesOfKind 5 = .ok (.aload_n 0, 1) := by decide +kernel
theorem dX10_placesOfKind_6 : decode cX10_placesOfKind 6 = .ok (.getfield 26, 3) := by decide +kernel
theorem dX10_placesOfKind_9 : decode cX10_placesOfKind 9 = .ok (.if_icmp .ge 22, 3) := by decide +kernel
theorem dX10_placesOfKind_12 : decode cX10_placesOfKind 12 = .ok (.iload_n 2, 1) := by decide +kernel
theorem dX10_placesOfKind_13 : decode cX10_placesOfKind 13 = .ok (.aload_n 0, 1) := by decide +kernel
theorem dX10_placesOfKind_14 : decode cX10_placesOfKind 14 = .ok (.getfield 11, 3) := by decide +kernel
theorem dX10_placesOfKind_17 : decode cX10_placesOfKind 17 = .ok (.iload_n 3, 1) := by decide +kernel
theorem dX10_placesOfKind_18 : decode cX10_placesOfKind 18 = .ok (.aaload, 1) := by decide +kernel
theorem dX10_placesOfKind_19 : decode cX10_placesOfKind 19 = .ok (.iload_n 1, 1) := by decide +kernel
theorem dX10_placesOfKind_20 : decode cX10_placesOfKind 20 = .ok (.invokevirtual 42, 3) := by decide +kernel
theorem dX10_placesOfKind_23 : decode cX10_placesOfKind 23 = .ok (.iadd, 1) := by decide +kernel
theorem dX10_placesOfKind_24 : decode cX10_placesOfKind 24 = .ok (.istore_n 2, 1) := by decide +kernel
theorem dX10_placesOfKind_25 : decode cX10_placesOfKind 25 = .ok (.iinc 3 1, 3) := by decide +kernel
theorem dX10_placesOfKind_28 : decode cX10_placesOfKind 28 = .ok (.goto (-24), 3) := by decide +kernel
theorem dX10_placesOfKind_31 : decode cX10_placesOfKind 31 = .ok (.iload_n 2, 1) := by decide +kernel
theorem dX10_placesOfKind_32 : decode cX10_placesOfKind 32 = .ok (.ireturn, 1) := by decide +kernel
theorem dX10_copyFrom_0 : decode cX10_copyFrom 0 = .ok (.aload_n 0, 1) := by decide +kernel
theorem dX10_copyFrom_1 : decode cX10_copyFrom 1 = .ok (.aload_n 1, 1) := by decide +kernel
theorem dX10_copyFrom_2 : decode cX10_copyFrom 2 = .ok (.getfield 26, 3) := by decide +kernel
theorem dX10_copyFrom_5 : decode cX10_copyFrom 5 = .ok (.putfield 26, 3) := by decide +kernel
theorem dX10_copyFrom_8 : decode cX10_copyFrom 8 = .ok (.iconst 0, 1) := by decide +kernel
theorem dX10_copyFrom_9 : decode cX10_copyFrom 9 = .ok (.istore_n 2, 1) := by decide +kernel
theorem dX10_copyFrom_10 : decode cX10_copyFrom 10 = .ok (.iload_n 2, 1) := by decide +kernel
theorem dX10_copyFrom_11 : decode cX10_copyFrom 11 = .ok (.aload_n 0, 1) := by decide +kernel
theorem dX10_copyFrom_12 : decode cX10_copyFrom 12 = .ok (.getfield 26, 3) := by decide +kernel
theorem dX10_copyFrom_15 : decode cX10_copyFrom 15 = .ok (.if_icmp .ge 24, 3) := by decide +kernel
theorem dX10_copyFrom_18 : decode cX10_copyFrom 18 = .ok (.aload_n 0, 1) := by decide +kernel
theorem dX10_copyFrom_19 : decode cX10_copyFrom 19 = .ok (.getfield 11, 3) := by decide +kernel
theorem dX10_copyFrom_22 : decode cX10_copyFrom 22 = .ok (.iload_n 2, 1) := by decide +kernel
theorem dX10_copyFrom_23 : decode cX10_copyFrom 23 = .ok (.aaload, 1) := by decide +kernel
theorem dX10_copyFrom_24 : decode cX10_copyFrom 24 = .ok (.aload_n 1, 1) := by decide +kernel
theorem dX10_copyFrom_25 : decode cX10_copyFrom 25 = .ok (.getfield 11, 3) := by decide +kernel
theorem dX10_copyFrom_28 : decode cX10_copyFrom 28 = .ok (.iload_n 2, 1) := by decide +kernel
theorem dX10_copyFrom_29 : decode cX10_copyFrom 29 = .ok (.aaload, 1) := by decide +kernel
theorem dX10_copyFrom_30 : decode cX10_copyFrom 30 = .ok (.invokevirtual 45, 3) := by decide +kernel
theorem dX10_copyFrom_33 : decode cX10_copyFrom 33 = .ok (.iinc 2 1, 3) := by decide +kernel
theorem dX10_copyFrom_36 : decode cX10_copyFrom 36 = .ok (.goto (-26), 3) := by decide +kernel
theorem dX10_copyFrom_39 : decode cX10_copyFrom 39 = .ok (.return_, 1) := by decide +kernel
theorem dX11_init_0 : decode cX11_init 0 = .ok (.aload_n 0, 1) := by decide +kernel
theorem dX11_init_1 : decode cX11_init 1 = .ok (.invokespecial 1, 3) := by decide +kernel
theorem dX11_init_4 : decode cX11_init 4 = .ok (.aload_n 0, 1) := by decide +kernel
theorem dX11_init_5 : decode cX11_init 5 = .ok (.new 7, 3) := by decide +kernel
theorem dX11_init_8 : decode cX11_init 8 = .ok (.dup, 1) := by decide +kernel
theorem dX11_init_9 : decode cX11_init 9 = .ok (.invokespecial 9, 3) := by decide +kernel
theorem dX11_init_12 : decode cX11_init 12 = .ok (.putfield 10, 3) := by decide +kernel
theorem dX11_init_15 : decode cX11_init 15 = .ok (.aload_n 0, 1) := by decide +kernel
theorem dX11_init_16 : decode cX11_init 16 = .ok (.new 16, 3) := by decide +kernel
theorem dX11_init_19 : decode cX11_init 19 = .ok (.dup, 1) := by decide +kernel
theorem dX11_init_20 : decode cX11_init 20 = .ok (.invokespecial 18, 3) := by decide +kernel
theorem dX11_init_23 : decode cX11_init 23 = .ok (.putfield 19, 3) := by decide +kernel
theorem dX11_init_26 : decode cX11_init 26 = .ok (.aload_n 0, 1) := by decide +kernel
theorem dX11_init_27 : decode cX11_init 27 = .ok (.new 23, 3) := by decide +kernel
theorem dX11_init_30 : decode cX11_init 30 = .ok (.dup, 1) := by decide +kernel
theorem dX11_init_31 : decode cX11_init 31 = .ok (.invokespecial 25, 3) := by decide +kernel
theorem dX11_init_34 : decode cX11_init 34 = .ok (.putfield 26, 3) := by decide +kernel
theorem dX11_init_37 : decode cX11_init 37 = .ok (.aload_n 0, 1) := by decide +kernel
theorem dX11_init_38 : decode cX11_init 38 = .ok (.new 30, 3) := by decide +kernel
theorem dX11_init_41 : decode cX11_init 41 = .ok (.dup, 1) := by decide +kernel
theorem dX11_init_42 : decode cX11_init 42 = .ok (.invokespecial 32, 3) := by decide +kernel
theorem dX11_init_45 : decode cX11_init 45 = .ok (.putfield 33, 3) := by decide +kernel
theorem dX11_init_48 : decode cX11_init 48 = .ok (.aload_n 0, 1) := by decide +kernel
theorem dX11_init_49 : decode cX11_init 49 = .ok (.new 37, 3) := by decide +kernel
theorem dX11_init_52 : decode cX11_init 52 = .ok (.dup, 1) := by decide +kernel
theorem dX11_init_53 : decode cX11_init 53 = .ok (.invokespecial 39, 3) := by decide +kernel
theorem dX11_init_56 : decode cX11_init 56 = .ok (.putfield 40, 3) := by decide +kernel
theorem dX11_init_59 : decode cX11_init 59 = .ok (.return_, 1) := by decide +kernel
theorem dX11_term_0 : decode cX11_term 0 = .ok (.iload_n 1, 1) := by decide +kernel
theorem dX11_term_1 : decode cX11_term 1 = .ok (.ifCond .eq 17, 3) := by decide +kernel
theorem dX11_term_4 : decode cX11_term 4 = .ok (.iload_n 1, 1) := by decide +kernel
theorem dX11_term_5 : decode cX11_term 5 = .ok (.i2l, 1) := by decide +kernel
theorem dX11_term_6 : decode cX11_term 6 = .ok (.ldc2_w 44, 3) := by decide +kernel
theorem dX11_term_9 : decode cX11_term 9 = .ok (.ldc2_w 46, 3) := by decide +kernel
theorem dX11_term_12 : decode cX11_term 12 = .ok (.invokestatic 48, 3) := by decide +kernel
theorem dX11_term_15 : decode cX11_term 15 = .ok (.ifCond .ne 6, 3) := by decide +kernel
theorem dX11_term_18 : decode cX11_term 18 = .ok (.ldc 52, 2) := by decide +kernel
theorem dX11_term_20 : decode cX11_term 20 = .ok (.ireturn, 1) := by decide +kernel
theorem dX11_term_21 : decode cX11_term 21 = .ok (.iload_n 2, 1) := by decide +kernel
theorem dX11_term_22 : decode cX11_term 22 = .ok (.i2l, 1) := by decide +kernel
theorem dX11_term_23 : decode cX11_term 23 = .ok (.lconst 0, 1) := by decide +kernel
theorem dX11_term_24 : decode cX11_term 24 = .ok (.ldc2_w 53, 3) := by decide +kernel
theorem dX11_term_27 : decode cX11_term 27 = .ok (.invokestatic 48, 3) := by decide +kernel
theorem dX11_term_30 : decode cX11_term 30 = .ok (.ifCond .eq 22, 3) := by decide +kernel
theorem dX11_term_33 : decode cX11_term 33 = .ok (.iload_n 3, 1) := by decide +kernel
theorem dX11_term_34 : decode cX11_term 34 = .ok (.i2l, 1) := by decide +kernel
theorem dX11_term_35 : decode cX11_term 35 = .ok (.lconst 0, 1) := by decide +kernel
theorem dX11_term_36 : decode cX11_term 36 = .ok (.ldc2_w 53, 3) := by decide +kernel
theorem dX11_term_39 : decode cX11_term 39 = .ok (.invokestatic 48, 3) := by decide +kernel
theorem dX11_term_42 : decode cX11_term 42 = .ok (.ifCond .eq 10, 3) := by decide +kernel
theorem dX11_term_45 : decode cX11_term 45 = .ok (.iload_n 2, 1) := by decide +kernel
theorem dX11_term_46 : decode cX11_term 46 = .ok (.iload_n 3, 1) := by decide +kernel
theorem dX11_term_47 : decode cX11_term 47 = .ok (.iadd, 1) := by decide +kernel
theorem dX11_term_48 : decode cX11_term 48 = .ok (.iconst 3, 1) := by decide +kernel
theorem dX11_term_49 : decode cX11_term 49 = .ok (.if_icmp .le 6, 3) := by decide +kernel
theorem dX11_term_52 : decode cX11_term 52 = .ok (.ldc 52, 2) := by decide +kernel
theorem dX11_term_54 : decode cX11_term 54 = .ok (.ireturn, 1) := by decide +kernel
theorem dX11_term_55 : decode cX11_term 55 = .ok (.aload_n 0, 1) := by decide +kernel
theorem dX11_term_56 : decode cX11_term 56 = .ok (.getfield 10, 3) := by decide +kernel
theorem dX11_term_59 : decode cX11_term 59 = .ok (.getfield 55, 3) := by decide +kernel
theorem dX11_term_62 : decode cX11_term 62 = .ok (.invokevirtual 59, 3) := by decide +kernel
theorem dX11_term_65 : decode cX11_term 65 = .ok (.ifCond .eq 6, 3) := by decide +kernel
theorem dX11_term_68 : decode cX11_term 68 = .ok (.ldc 65, 2) := by decide +kernel
theorem dX11_term_70 : decode cX11_term 70 = .ok (.ireturn, 1) := by decide +kernel
theorem dX11_term_71 : decode cX11_term 71 = .ok (.aload_n 0, 1) := by decide +kernel
theorem dX11_term_72 : decode cX11_term 72 = .ok (.getfield 19, 3) := by decide +kernel
theorem dX11_term_75 : decode cX11_term 75 = .ok (.aload_n 0, 1) := by decide +kernel
theorem dX11_term_76 : decode cX11_term 76 = .ok (.getfield 10, 3) := by decide +kernel
theorem dX11_term_79 : decode cX11_term 79 = .ok (.invokevirtual 66, 3) := by decide +kernel
theorem dX11_term_82 : decode cX11_term 82 = .ok (.aload_n 0, 1) := by decide +kernel
theorem dX11_term_83 : decode cX11_term 83 = .ok (.getfield 10, 3) := by decide +kernel
theorem dX11_term_86 : decode cX11_term 86 = .ok (.getfield 70, 3) := by decide +kernel
theorem dX11_term_89 : decode cX11_term 89 = .ok (.invokevirtual 74, 3) := by decide +kernel
theorem dX11_term_92 : decode cX11_term 92 = .ok (.aload_n 0, 1) := by decide +kernel
theorem dX11_term_93 : decode cX11_term 93 = .ok (.getfield 10, 3) := by decide +kernel
theorem dX11_term_96 : decode cX11_term 96 = .ok (.getfield 55, 3) := by decide +kernel
theorem dX11_term_99 : decode cX11_term 99 = .ok (.iload_n 1, 1) := by decide +kernel
theorem dX11_term_100 : decode cX11_term 100 = .ok (.iload_n 2, 1) := by decide +kernel
theorem dX11_term_101 : decode cX11_term 101 = .ok (.iload_n 3, 1) := by decide +kernel
theorem dX11_term_102 : decode cX11_term 102 = .ok (.invokevirtual 79, 3) := by decide +kernel
theorem dX11_term_105 : decode cX11_term 105 = .ok (.aload_n 0, 1) := by decide +kernel
theorem dX11_term_106 : decode cX11_term 106 = .ok (.getfield 10, 3) := by decide +kernel
theorem dX11_term_109 : decode cX11_term 109 = .ok (.getfield 55, 3) := by decide +kernel
theorem dX11_term_112 : decode cX11_term 112 = .ok (.getfield 83, 3) := by decide +kernel
theorem dX11_term_115 : decode cX11_term 115 = .ok (.ireturn, 1) := by decide +kernel
theorem dX11_dropTerm_0 : decode cX11_dropTerm 0 = .ok (.iload_n 1, 1) := by decide +kernel
theorem dX11_dropTerm_1 : decode cX11_dropTerm 1 = .ok (.ifCond .ge 6, 3) := by decide +kernel
theorem dX11_dropTerm_4 : decode cX11_dropTerm 4 = .ok (.ldc 52, 2) := by decide +kernel
theorem dX11_dropTerm_6 : decode cX11_dropTerm 6 = .ok (.ireturn, 1) := by decide +kernel
theorem dX11_dropTerm_7 : decode cX11_dropTerm 7 = .ok (.aload_n 0, 1) := by decide +kernel
theorem dX11_dropTerm_8 : decode cX11_dropTerm 8 = .ok (.getfield 10, 3) := by decide +kernel
theorem dX11_dropTerm_11 : decode cX11_dropTerm 11 = .ok (.getfield 55, 3) := by decide +kernel
theorem dX11_dropTerm_14 : decode cX11_dropTerm 14 = .ok (.iload_n 1, 1) := by decide +kernel
theorem dX11_dropTerm_15 : decode cX11_dropTerm 15 = .ok (.invokevirtual 87, 3) := by decide +kernel
theorem dX11_dropTerm_18 : decode cX11_dropTerm 18 = .ok (.ifCond .ne 6, 3) := by decide +kernel
theorem dX11_dropTerm_21 : decode cX11_dropTerm 21 = .ok (.ldc 91, 2) := by decide +kernel
theorem dX11_dropTerm_23 : decode cX11_dropTerm 23 = .ok (.ireturn, 1) := by decide +kernel
theorem dX11_dropTerm_24 : decode cX11_dropTerm 24 = .ok (.aload_n 0, 1) := by decide +kernel
theorem dX11_dropTerm_25 : decode cX11_dropTerm 25 = .ok (.getfield 19, 3) := by decide +kernel
theorem dX11_dropTerm_28 : decode cX11_dropTerm 28 = .ok (.aload_n 0, 1) := by decide +kernel
theorem dX11_dropTerm_29 : decode cX11_dropTerm 29 = .ok (.getfield 10, 3) := by decide +kernel
theorem dX11_dropTerm_32 : decode cX11_dropTerm 32 = .ok (.invokevirtual 66, 3) := by decide +kernel
theorem dX11_dropTerm_35 : decode cX11_dropTerm 35 = .ok (.aload_n 0, 1) := by decide +kernel
theorem dX11_dropTerm_36 : decode cX11_dropTerm 36 = .ok (.getfield 10, 3) := by decide +kernel
theorem dX11_dropTerm_39 : decode cX11_dropTerm 39 = .ok (.getfield 70, 3) := by decide +kernel
theorem dX11_dropTerm_42 : decode cX11_dropTerm 42 = .ok (.invokevirtual 74, 3) := by decide +kernel
theorem dX11_dropTerm_45 : decode cX11_dropTerm 45 = .ok (.aload_n 0, 1) := by decide +kernel
theorem dX11_dropTerm_46 : decode cX11_dropTerm 46 = .ok (.getfield 10, 3) := by decide +kernel
theorem dX11_dropTerm_49 : decode cX11_dropTerm 49 = .ok (.getfield 55, 3) := by decide +kernel
theorem dX11_dropTerm_52 : decode cX11_dropTerm 52 = .ok (.iload_n 1, 1) := by decide +kernel
theorem dX11_dropTerm_53 : decode cX11_dropTerm 53 = .ok (.invokevirtual 92, 3) := by decide +kernel
theorem dX11_dropTerm_56 : decode cX11_dropTerm 56 = .ok (.ireturn, 1) := by decide +kernel
theorem dX11_termOf_0 : decode cX11_termOf 0 = .ok (.iload_n 1, 1) := by decide +kernel
theorem dX11_termOf_1 : decode cX11_termOf 1 = .ok (.ifCond .lt 15, 3) := by decide +kernel
theorem dX11_termOf_4 : decode cX11_termOf 4 = .ok (.iload_n 2, 1) := by decide +kernel
theorem dX11_termOf_5 : decode cX11_termOf 5 = .ok (.i2l, 1) := by decide +kernel
theorem dX11_termOf_6 : decode cX11_termOf 6 = .ok (.lconst 0, 1) := by decide +kernel
theorem dX11_termOf_7 : decode cX11_termOf 7 = .ok (.ldc2_w 96, 3) := by decide +kernel
theorem dX11_termOf_10 : decode cX11_termOf 10 = .ok (.invokestatic 48, 3) := by decide +kernel
theorem dX11_termOf_13 : decode cX11_termOf 13 = .ok (.ifCond .ne 6, 3) := by decide +kernel
theorem dX11_termOf_16 : decode cX11_termOf 16 = .ok (.ldc 52, 2) := by decide +kernel
theorem dX11_termOf_18 : decode cX11_termOf 18 = .ok (.ireturn, 1) := by decide +kernel
theorem dX11_termOf_19 : decode cX11_termOf 19 = .ok (.aload_n 0, 1) := by decide +kernel
theorem dX11_termOf_20 : decode cX11_termOf 20 = .ok (.getfield 10, 3) := by decide +kernel
theorem dX11_termOf_23 : decode cX11_termOf 23 = .ok (.getfield 55, 3) := by decide +kernel
theorem dX11_termOf_26 : decode cX11_termOf 26 = .ok (.iload_n 1, 1) := by decide +kernel
theorem dX11_termOf_27 : decode cX11_termOf 27 = .ok (.invokevirtual 87, 3) := by decide +kernel
theorem dX11_termOf_30 : decode cX11_termOf 30 = .ok (.ifCond .ne 6, 3) := by decide +kernel
theorem dX11_termOf_33 : decode cX11_termOf 33 = .ok (.ldc 98, 2) := by decide +kernel
theorem dX11_termOf_35 : decode cX11_termOf 35 = .ok (.ireturn, 1) := by decide +kernel
theorem dX11_termOf_36 : decode cX11_termOf 36 = .ok (.iload_n 2, 1) := by decide +kernel
theorem dX11_termOf_37 : decode cX11_termOf 37 = .ok (.lookupswitch 53 #[(0, 27), (1, 40)], 27) := by decide +kernel
theorem dX11_termOf_64 : decode cX11_termOf 64 = .ok (.aload_n 0, 1) := by decide +kernel
theorem dX11_termOf_65 : decode cX11_termOf 65 = .ok (.getfield 10, 3) := by decide +kernel
theorem dX11_termOf_68 : decode cX11_termOf 68 = .ok (.getfield 55, 3) := by decide +kernel
theorem dX11_termOf_71 : decode cX11_termOf 71 = .ok (.getfield 99, 3) := by decide +kernel
theorem dX11_termOf_74 : decode cX11_termOf 74 = .ok (.iload_n 1, 1) := by decide +kernel
theorem dX11_termOf_75 : decode cX11_termOf 75 = .ok (.iaload, 1) := by decide +kernel
theorem dX11_termOf_76 : decode cX11_termOf 76 = .ok (.ireturn, 1) := by decide +kernel
theorem dX11_termOf_77 : decode cX11_termOf 77 = .ok (.aload_n 0, 1) := by decide +kernel
theorem dX11_termOf_78 : decode cX11_termOf 78 = .ok (.getfield 10, 3) := by decide +kernel
theorem dX11_termOf_81 : decode cX11_termOf 81 = .ok (.getfield 55, 3) := by decide +kernel
theorem dX11_termOf_84 : decode cX11_termOf 84 = .ok (.getfield 103, 3) := by decide +kernel
theorem dX11_termOf_87 : decode cX11_termOf 87 = .ok (.iload_n 1, 1) := by decide +kernel
theorem dX11_termOf_88 : decode cX11_termOf 88 = .ok (.iaload, 1) := by decide +kernel
theorem dX11_termOf_89 : decode cX11_termOf 89 = .ok (.ireturn, 1) := by decide +kernel
theorem dX11_termOf_90 : decode cX11_termOf 90 = .ok (.aload_n 0, 1) := by decide +kernel
theorem dX11_termOf_91 : decode cX11_termOf 91 = .ok (.getfield 10, 3) := by decide +kernel
theorem dX11_termOf_94 : decode cX11_termOf 94 = .ok (.getfield 55, 3) := by decide +kernel
theorem dX11_termOf_97 : decode cX11_termOf 97 = .ok (.getfield 106, 3) := by decide +kernel
theorem dX11_termOf_100 : decode cX11_termOf 100 = .ok (.iload_n 1, 1) := by decide +kernel
theorem dX11_termOf_101 : decode cX11_termOf 101 = .ok (.iaload, 1) := by decide +kernel
theorem dX11_termOf_102 : decode cX11_termOf 102 = .ok (.ireturn, 1) := by decide +kernel
theorem dX11_corrected_0 : decode cX11_corrected 0 = .ok (.iload_n 1, 1) := by decide +kernel
theorem dX11_corrected_1 : decode cX11_corrected 1 = .ok (.i2l, 1) := by decide +kernel
theorem dX11_corrected_2 : decode cX11_corrected 2 = .ok (.iload_n 2, 1) := by decide +kernel
theorem dX11_corrected_3 : decode cX11_corrected 3 = .ok (.i2l, 1) := by decide +kernel
theorem dX11_corrected_4 : decode cX11_corrected 4 = .ok (.invokestatic 109, 3) := by decide +kernel
theorem dX11_corrected_7 : decode cX11_corrected 7 = .ok (.ifCond .eq 15, 3) := by decide +kernel
theorem dX11_corrected_10 : decode cX11_corrected 10 = .ok (.iload_n 3, 1) := by decide +kernel
theorem dX11_corrected_11 : decode cX11_corrected 11 = .ok (.i2l, 1) := by decide +kernel
theorem dX11_corrected_12 : decode cX11_corrected 12 = .ok (.lconst 0, 1) := by decide +kernel
theorem dX11_corrected_13 : decode cX11_corrected 13 = .ok (.ldc2_w 96, 3) := by decide +kernel
theorem dX11_corrected_16 : decode cX11_corrected 16 = .ok (.invokestatic 48, 3) := by decide +kernel
theorem dX11_corrected_19 : decode cX11_corrected 19 = .ok (.ifCond .ne 6, 3) := by decide +kernel
theorem dX11_corrected_22 : decode cX11_corrected 22 = .ok (.ldc 52, 2) := by decide +kernel
theorem dX11_corrected_24 : decode cX11_corrected 24 = .ok (.ireturn, 1) := by decide +kernel
theorem dX11_corrected_25 : decode cX11_corrected 25 = .ok (.aload_n 0, 1) := by decide +kernel
theorem dX11_corrected_26 : decode cX11_corrected 26 = .ok (.getfield 26, 3) := by decide +kernel
theorem dX11_corrected_29 : decode cX11_corrected 29 = .ok (.getfield 137, 3) := by decide +kernel
theorem dX11_corrected_32 : decode cX11_corrected 32 = .ok (.astore 4, 2) := by decide +kernel
theorem dX11_corrected_34 : decode cX11_corrected 34 = .ok (.aload 4, 2) := by decide +kernel
theorem dX11_corrected_36 : decode cX11_corrected 36 = .ok (.aload_n 0, 1) := by decide +kernel
theorem dX11_corrected_37 : decode cX11_corrected 37 = .ok (.getfield 10, 3) := by decide +kernel
theorem dX11_corrected_40 : decode cX11_corrected 40 = .ok (.iload_n 1, 1) := by decide +kernel
theorem dX11_corrected_41 : decode cX11_corrected 41 = .ok (.i2l, 1) := by decide +kernel
theorem dX11_corrected_42 : decode cX11_corrected 42 = .ok (.iload_n 2, 1) := by decide +kernel
theorem dX11_corrected_43 : decode cX11_corrected 43 = .ok (.i2l, 1) := by decide +kernel
theorem dX11_corrected_44 : decode cX11_corrected 44 = .ok (.invokevirtual 141, 3) := by decide +kernel
theorem dX11_corrected_47 : decode cX11_corrected 47 = .ok (.ifCond .ne 6, 3) := by decide +kernel
theorem dX11_corrected_50 : decode cX11_corrected 50 = .ok (.ldc 98, 2) := by decide +kernel
theorem dX11_corrected_52 : decode cX11_corrected 52 = .ok (.ireturn, 1) := by decide +kernel
theorem dX11_corrected_53 : decode cX11_corrected 53 = .ok (.iload_n 3, 1) := by decide +kernel
theorem dX11_corrected_54 : decode cX11_corrected 54 = .ok (.lookupswitch 38 #[(0, 26), (1, 32)], 26) := by decide +kernel
theorem dX11_corrected_80 : decode cX11_corrected 80 = .ok (.aload 4, 2) := by decide +kernel
theorem dX11_corrected_82 : decode cX11_corrected 82 = .ok (.getfield 147, 3) := by decide +kernel
theorem dX11_corrected_85 : decode cX11_corrected 85 = .ok (.ireturn, 1) := by decide +kernel
theorem dX11_corrected_86 : decode cX11_corrected 86 = .ok (.aload 4, 2) := by decide +kernel
theorem dX11_corrected_88 : decode cX11_corrected 88 = .ok (.getfield 150, 3) := by decide +kernel
theorem dX11_corrected_91 : decode cX11_corrected 91 = .ok (.ireturn, 1) := by decide +kernel
theorem dX11_corrected_92 : decode cX11_corrected 92 = .ok (.aload 4, 2) := by decide +kernel
theorem dX11_corrected_94 : decode cX11_corrected 94 = .ok (.getfield 153, 3) := by decide +kernel
theorem dX11_corrected_97 : decode cX11_corrected 97 = .ok (.ireturn, 1) := by decide +kernel
theorem dX11_begin_0 : decode cX11_begin 0 = .ok (.iload_n 1, 1) := by decide +kernel
theorem dX11_begin_1 : decode cX11_begin 1 = .ok (.i2l, 1) := by decide +kernel
theorem dX11_begin_2 : decode cX11_begin 2 = .ok (.iload_n 2, 1) := by decide +kernel
theorem dX11_begin_3 : decode cX11_begin 3 = .ok (.i2l, 1) := by decide +kernel
theorem dX11_begin_4 : decode cX11_begin 4 = .ok (.invokestatic 109, 3) := by decide +kernel
theorem dX11_begin_7 : decode cX11_begin 7 = .ok (.ifCond .eq 10, 3) := by decide +kernel
theorem dX11_begin_10 : decode cX11_begin 10 = .ok (.iload_n 3, 1) := by decide +kernel
theorem dX11_begin_11 : decode cX11_begin 11 = .ok (.invokestatic 156, 3) := by decide +kernel
theorem dX11_begin_14 : decode cX11_begin 14 = .ok (.ifCond .ne 6, 3) := by decide +kernel
theorem dX11_begin_17 : decode cX11_begin 17 = .ok (.ldc 52, 2) := by decide +kernel
theorem dX11_begin_19 : decode cX11_begin 19 = .ok (.ireturn, 1) := by decide +kernel
theorem dX11_begin_20 : decode cX11_begin 20 = .ok (.aload_n 0, 1) := by decide +kernel
theorem dX11_begin_21 : decode cX11_begin 21 = .ok (.getfield 26, 3) := by decide +kernel
theorem dX11_begin_24 : decode cX11_begin 24 = .ok (.getfield 137, 3) := by decide +kernel
theorem dX11_begin_27 : decode cX11_begin 27 = .ok (.aload_n 0, 1) := by decide +kernel
theorem dX11_begin_28 : decode cX11_begin 28 = .ok (.getfield 10, 3) := by decide +kernel
theorem dX11_begin_31 : decode cX11_begin 31 = .ok (.iload_n 1, 1) := by decide +kernel
theorem dX11_begin_32 : decode cX11_begin 32 = .ok (.i2l, 1) := by decide +kernel
theorem dX11_begin_33 : decode cX11_begin 33 = .ok (.iload_n 2, 1) := by decide +kernel
theorem dX11_begin_34 : decode cX11_begin 34 = .ok (.i2l, 1) := by decide +kernel
theorem dX11_begin_35 : decode cX11_begin 35 = .ok (.invokevirtual 141, 3) := by decide +kernel
theorem dX11_begin_38 : decode cX11_begin 38 = .ok (.ifCond .ne 6, 3) := by decide +kernel
theorem dX11_begin_41 : decode cX11_begin 41 = .ok (.ldc 91, 2) := by decide +kernel
theorem dX11_begin_43 : decode cX11_begin 43 = .ok (.ireturn, 1) := by decide +kernel
theorem dX11_begin_44 : decode cX11_begin 44 = .ok (.aload_n 0, 1) := by decide +kernel
theorem dX11_begin_45 : decode cX11_begin 45 = .ok (.iload_n 3, 1) := by decide +kernel
theorem dX11_begin_46 : decode cX11_begin 46 = .ok (.iconst (-1), 1) := by decide +kernel
theorem dX11_begin_47 : decode cX11_begin 47 = .ok (.iconst (-1), 1) := by decide +kernel
theorem dX11_begin_48 : decode cX11_begin 48 = .ok (.invokevirtual 159, 3) := by decide +kernel
theorem dX11_begin_51 : decode cX11_begin 51 = .ok (.ireturn, 1) := by decide +kernel
theorem dX11_branch_0 : decode cX11_branch 0 = .ok (.aload_n 0, 1) := by decide +kernel
theorem dX11_branch_1 : decode cX11_branch 1 = .ok (.getfield 10, 3) := by decide +kernel
theorem dX11_branch_4 : decode cX11_branch 4 = .ok (.getfield 70, 3) := by decide +kernel
theorem dX11_branch_7 : decode cX11_branch 7 = .ok (.iload_n 1, 1) := by decide +kernel
theorem dX11_branch_8 : decode cX11_branch 8 = .ok (.invokevirtual 163, 3) := by decide +kernel
theorem dX11_branch_11 : decode cX11_branch 11 = .ok (.astore 4, 2) := by decide +kernel
theorem dX11_branch_13 : decode cX11_branch 13 = .ok (.aload 4, 2) := by decide +kernel
theorem dX11_branch_15 : decode cX11_branch 15 = .ok (.ifnull 19, 3) := by decide +kernel
theorem dX11_branch_18 : decode cX11_branch 18 = .ok (.aload 4, 2) := by decide +kernel
theorem dX11_branch_20 : decode cX11_branch 20 = .ok (.iload_n 2, 1) := by decide +kernel
theorem dX11_branch_21 : decode cX11_branch 21 = .ok (.invokevirtual 167, 3) := by decide +kernel
theorem dX11_branch_24 : decode cX11_branch 24 = .ok (.ifCond .eq 10, 3) := by decide +kernel
theorem dX11_branch_27 : decode cX11_branch 27 = .ok (.iload_n 3, 1) := by decide +kernel
theorem dX11_branch_28 : decode cX11_branch 28 = .ok (.invokestatic 156, 3) := by decide +kernel
theorem dX11_branch_31 : decode cX11_branch 31 = .ok (.ifCond .ne 6, 3) := by decide +kernel
theorem dX11_branch_34 : decode cX11_branch 34 = .ok (.ldc 52, 2) := by decide +kernel
theorem dX11_branch_36 : decode cX11_branch 36 = .ok (.ireturn, 1) := by decide +kernel
theorem dX11_branch_37 : decode cX11_branch 37 = .ok (.aload 4, 2) := by decide +kernel
theorem dX11_branch_39 : decode cX11_branch 39 = .ok (.getfield 170, 3) := by decide +kernel
theorem dX11_branch_42 : decode cX11_branch 42 = .ok (.iload_n 2, 1) := by decide +kernel
theorem dX11_branch_43 : decode cX11_branch 43 = .ok (.iaload, 1) := by decide +kernel
theorem dX11_branch_44 : decode cX11_branch 44 = .ok (.iconst 2, 1) := by decide +kernel
theorem dX11_branch_45 : decode cX11_branch 45 = .ok (.if_icmp .ne 21, 3) := by decide +kernel
theorem dX11_branch_48 : decode cX11_branch 48 = .ok (.aload_n 0, 1) := by decide +kernel
theorem dX11_branch_49 : decode cX11_branch 49 = .ok (.getfield 26, 3) := by decide +kernel
theorem dX11_branch_52 : decode cX11_branch 52 = .ok (.aload_n 0, 1) := by decide +kernel
theorem dX11_branch_53 : decode cX11_branch 53 = .ok (.getfield 10, 3) := by decide +kernel
theorem dX11_branch_56 : decode cX11_branch 56 = .ok (.aload 4, 2) := by decide +kernel
theorem dX11_branch_58 : decode cX11_branch 58 = .ok (.iload_n 2, 1) := by decide +kernel
theorem dX11_branch_59 : decode cX11_branch 59 = .ok (.iload_n 3, 1) := by decide +kernel
theorem dX11_branch_60 : decode cX11_branch 60 = .ok (.invokevirtual 173, 3) := by decide +kernel
theorem dX11_branch_63 : decode cX11_branch 63 = .ok (.ifCond .ne 6, 3) := by decide +kernel
theorem dX11_branch_66 : decode cX11_branch 66 = .ok (.ldc 91, 2) := by decide +kernel
theorem dX11_branch_68 : decode cX11_branch 68 = .ok (.ireturn, 1) := by decide +kernel
theorem dX11_branch_69 : decode cX11_branch 69 = .ok (.aload_n 0, 1) := by decide +kernel
theorem dX11_branch_70 : decode cX11_branch 70 = .ok (.aload_n 0, 1) := by decide +kernel
theorem dX11_branch_71 : decode cX11_branch 71 = .ok (.getfield 26, 3) := by decide +kernel
theorem dX11_branch_74 : decode cX11_branch 74 = .ok (.aload 4, 2) := by decide +kernel
theorem dX11_branch_76 : decode cX11_branch 76 = .ok (.iload_n 2, 1) := by decide +kernel
theorem dX11_branch_77 : decode cX11_branch 77 = .ok (.iload_n 3, 1) := by decide +kernel
theorem dX11_branch_78 : decode cX11_branch 78 = .ok (.invokevirtual 177, 3) := by decide +kernel
theorem dX11_branch_81 : decode cX11_branch 81 = .ok (.iload_n 1, 1) := by decide +kernel
theorem dX11_branch_82 : decode cX11_branch 82 = .ok (.iload_n 2, 1) := by decide +kernel
theorem dX11_branch_83 : decode cX11_branch 83 = .ok (.invokevirtual 159, 3) := by decide +kernel
theorem dX11_branch_86 : decode cX11_branch 86 = .ok (.ireturn, 1) := by decide +kernel
theorem dX11_startWalk_0 : decode cX11_startWalk 0 = .ok (.aload_n 0, 1) := by decide +kernel
theorem dX11_startWalk_1 : decode cX11_startWalk 1 = .ok (.getfield 10, 3) := by decide +kernel
theorem dX11_startWalk_4 : decode cX11_startWalk 4 = .ok (.getfield 70, 3) := by decide +kernel
theorem dX11_startWalk_7 : decode cX11_startWalk 7 = .ok (.invokevirtual 181, 3) := by decide +kernel
theorem dX11_startWalk_10 : decode cX11_startWalk 10 = .ok (.ifCond .eq 6, 3) := by decide +kernel
theorem dX11_startWalk_13 : decode cX11_startWalk 13 = .ok (.ldc 65, 2) := by decide +kernel
theorem dX11_startWalk_15 : decode cX11_startWalk 15 = .ok (.ireturn, 1) := by decide +kernel
theorem dX11_startWalk_16 : decode cX11_startWalk 16 = .ok (.aload_n 0, 1) := by decide +kernel
theorem dX11_startWalk_17 : decode cX11_startWalk 17 = .ok (.getfield 19, 3) := by decide +kernel
theorem dX11_startWalk_20 : decode cX11_startWalk 20 = .ok (.aload_n 0, 1) := by decide +kernel
theorem dX11_startWalk_21 : decode cX11_startWalk 21 = .ok (.getfield 10, 3) := by decide +kernel
theorem dX11_startWalk_24 : decode cX11_startWalk 24 = .ok (.invokevirtual 66, 3) := by decide +kernel
theorem dX11_startWalk_27 : decode cX11_startWalk 27 = .ok (.aload_n 0, 1) := by decide +kernel
theorem dX11_startWalk_28 : decode cX11_startWalk 28 = .ok (.getfield 10, 3) := by decide +kernel
theorem dX11_startWalk_31 : decode cX11_startWalk 31 = .ok (.getfield 70, 3) := by decide +kernel
theorem dX11_startWalk_34 : decode cX11_startWalk 34 = .ok (.getfield 182, 3) := by decide +kernel
theorem dX11_startWalk_37 : decode cX11_startWalk 37 = .ok (.istore 4, 2) := by decide +kernel
theorem dX11_startWalk_39 : decode cX11_startWalk 39 = .ok (.aload_n 0, 1) := by decide +kernel
theorem dX11_startWalk_40 : decode cX11_startWalk 40 = .ok (.getfield 10, 3) := by decide +kernel
theorem dX11_startWalk_43 : decode cX11_startWalk 43 = .ok (.getfield 70, 3) := by decide +kernel
theorem dX11_startWalk_46 : decode cX11_startWalk 46 = .ok (.invokevirtual 183, 3) := by decide +kernel
theorem dX11_startWalk_49 : decode cX11_startWalk 49 = .ok (.astore 5, 2) := by decide +kernel
theorem dX11_startWalk_51 : decode cX11_startWalk 51 = .ok (.aload 5, 2) := by decide +kernel
theorem dX11_startWalk_53 : decode cX11_startWalk 53 = .ok (.ifnull 35, 3) := by decide +kernel
theorem dX11_startWalk_56 : decode cX11_startWalk 56 = .ok (.aload 5, 2) := by decide +kernel
theorem dX11_startWalk_58 : decode cX11_startWalk 58 = .ok (.iload_n 1, 1) := by decide +kernel
theorem dX11_startWalk_59 : decode cX11_startWalk 59 = .ok (.aload_n 0, 1) := by decide +kernel
theorem dX11_startWalk_60 : decode cX11_startWalk 60 = .ok (.getfield 10, 3) := by decide +kernel
theorem dX11_startWalk_63 : decode cX11_startWalk 63 = .ok (.getfield 187, 3) := by decide +kernel
theorem dX11_startWalk_66 : decode cX11_startWalk 66 = .ok (.iconst 0, 1) := by decide +kernel
theorem dX11_startWalk_67 : decode cX11_startWalk 67 = .ok (.invokevirtual 193, 3) := by decide +kernel
theorem dX11_startWalk_70 : decode cX11_startWalk 70 = .ok (.iload_n 2, 1) := by decide +kernel
theorem dX11_startWalk_71 : decode cX11_startWalk 71 = .ok (.iload_n 3, 1) := by decide +kernel
theorem dX11_startWalk_72 : decode cX11_startWalk 72 = .ok (.invokevirtual 195, 3) := by decide +kernel
theorem dX11_startWalk_75 : decode cX11_startWalk 75 = .ok (.aload 5, 2) := by decide +kernel
theorem dX11_startWalk_77 : decode cX11_startWalk 77 = .ok (.aload_n 0, 1) := by decide +kernel
theorem dX11_startWalk_78 : decode cX11_startWalk 78 = .ok (.getfield 26, 3) := by decide +kernel
theorem dX11_startWalk_81 : decode cX11_startWalk 81 = .ok (.getfield 137, 3) := by decide +kernel
theorem dX11_startWalk_84 : decode cX11_startWalk 84 = .ok (.iconst 0, 1) := by decide +kernel
theorem dX11_startWalk_85 : decode cX11_startWalk 85 = .ok (.invokevirtual 199, 3) := by decide +kernel
theorem dX11_startWalk_88 : decode cX11_startWalk 88 = .ok (.iload 4, 2) := by decide +kernel
theorem dX11_startWalk_90 : decode cX11_startWalk 90 = .ok (.ireturn, 1) := by decide +kernel
theorem dX11_step_0 : decode cX11_step 0 = .ok (.aload_n 0, 1) := by decide +kernel
theorem dX11_step_1 : decode cX11_step 1 = .ok (.getfield 10, 3) := by decide +kernel
theorem dX11_step_4 : decode cX11_step 4 = .ok (.getfield 70, 3) := by decide +kernel
theorem dX11_step_7 : decode cX11_step 7 = .ok (.iload_n 1, 1) := by decide +kernel
theorem dX11_step_8 : decode cX11_step 8 = .ok (.invokevirtual 163, 3) := by decide +kernel
theorem dX11_step_11 : decode cX11_step 11 = .ok (.astore_n 3, 1) := by decide +kernel
theorem dX11_step_12 : decode cX11_step 12 = .ok (.aload_n 3, 1) := by decide +kernel
theorem dX11_step_13 : decode cX11_step 13 = .ok (.ifnull 15, 3) := by decide +kernel
theorem dX11_step_16 : decode cX11_step 16 = .ok (.iload_n 2, 1) := by decide +kernel
theorem dX11_step_17 : decode cX11_step 17 = .ok (.i2l, 1) := by decide +kernel
theorem dX11_step_18 : decode cX11_step 18 = .ok (.lconst 1, 1) := by decide +kernel
theorem dX11_step_19 : decode cX11_step 19 = .ok (.ldc2_w 203, 3) := by decide +kernel
theorem dX11_step_22 : decode cX11_step 22 = .ok (.invokestatic 48, 3) := by decide +kernel
theorem dX11_step_25 : decode cX11_step 25 = .ok (.ifCond .ne 6, 3) := by decide +kernel
theorem dX11_step_28 : decode cX11_step 28 = .ok (.ldc 52, 2) := by decide +kernel
theorem dX11_step_30 : decode cX11_step 30 = .ok (.ireturn, 1) := by decide +kernel
theorem dX11_step_31 : decode cX11_step 31 = .ok (.aload_n 3, 1) := by decide +kernel
theorem dX11_step_32 : decode cX11_step 32 = .ok (.invokevirtual 205, 3) := by decide +kernel
theorem dX11_step_35 : decode cX11_step 35 = .ok (.ifCond .eq 6, 3) := by decide +kernel
theorem dX11_step_38 : decode cX11_step 38 = .ok (.ldc 91, 2) := by decide +kernel
theorem dX11_step_40 : decode cX11_step 40 = .ok (.ireturn, 1) := by decide +kernel
theorem dX11_step_41 : decode cX11_step 41 = .ok (.aload_n 0, 1) := by decide +kernel
theorem dX11_step_42 : decode cX11_step 42 = .ok (.getfield 19, 3) := by decide +kernel
theorem dX11_step_45 : decode cX11_step 45 = .ok (.aload_n 0, 1) := by decide +kernel
theorem dX11_step_46 : decode cX11_step 46 = .ok (.getfield 10, 3) := by decide +kernel
theorem dX11_step_49 : decode cX11_step 49 = .ok (.invokevirtual 66, 3) := by decide +kernel
theorem dX11_step_52 : decode cX11_step 52 = .ok (.iconst 0, 1) := by decide +kernel
theorem dX11_step_53 : decode cX11_step 53 = .ok (.istore 4, 2) := by decide +kernel
theorem dX11_step_55 : decode cX11_step 55 = .ok (.iload 4, 2) := by decide +kernel
theorem dX11_step_57 : decode cX11_step 57 = .ok (.iload_n 2, 1) := by decide +kernel
theorem dX11_step_58 : decode cX11_step 58 = .ok (.if_icmp .ge 31, 3) := by decide +kernel
theorem dX11_step_61 : decode cX11_step 61 = .ok (.aload_n 3, 1) := by decide +kernel
theorem dX11_step_62 : decode cX11_step 62 = .ok (.invokevirtual 205, 3) := by decide +kernel
theorem dX11_step_65 : decode cX11_step 65 = .ok (.ifCond .ne 24, 3) := by decide +kernel
theorem dX11_step_68 : decode cX11_step 68 = .ok (.aload_n 0, 1) := by decide +kernel
theorem dX11_step_69 : decode cX11_step 69 = .ok (.getfield 26, 3) := by decide +kernel
theorem dX11_step_72 : decode cX11_step 72 = .ok (.aload_n 0, 1) := by decide +kernel
theorem dX11_step_73 : decode cX11_step 73 = .ok (.getfield 10, 3) := by decide +kernel
theorem dX11_step_76 : decode cX11_step 76 = .ok (.aload_n 3, 1) := by decide +kernel
theorem dX11_step_77 : decode cX11_step 77 = .ok (.invokevirtual 209, 3) := by decide +kernel
theorem dX11_step_80 : decode cX11_step 80 = .ok (.ifCond .eq 9, 3) := by decide +kernel
theorem dX11_step_83 : decode cX11_step 83 = .ok (.iinc 4 1, 3) := by decide +kernel
theorem dX11_step_86 : decode cX11_step 86 = .ok (.goto (-31), 3) := by decide +kernel
theorem dX11_step_89 : decode cX11_step 89 = .ok (.iload 4, 2) := by decide +kernel
theorem dX11_step_91 : decode cX11_step 91 = .ok (.ireturn, 1) := by decide +kernel
theorem dX11_drop_0 : decode cX11_drop 0 = .ok (.aload_n 0, 1) := by decide +kernel
theorem dX11_drop_1 : decode cX11_drop 1 = .ok (.getfield 10, 3) := by decide +kernel
theorem dX11_drop_4 : decode cX11_drop 4 = .ok (.getfield 70, 3) := by decide +kernel
theorem dX11_drop_7 : decode cX11_drop 7 = .ok (.iload_n 1, 1) := by decide +kernel
theorem dX11_drop_8 : decode cX11_drop 8 = .ok (.invokevirtual 163, 3) := by decide +kernel
theorem dX11_drop_11 : decode cX11_drop 11 = .ok (.ifnonnull 6, 3) := by decide +kernel
theorem dX11_drop_14 : decode cX11_drop 14 = .ok (.ldc 52, 2) := by decide +kernel
theorem dX11_drop_16 : decode cX11_drop 16 = .ok (.ireturn, 1) := by decide +kernel
theorem dX11_drop_17 : decode cX11_drop 17 = .ok (.aload_n 0, 1) := by decide +kernel
theorem dX11_drop_18 : decode cX11_drop 18 = .ok (.getfield 19, 3) := by decide +kernel
theorem dX11_drop_21 : decode cX11_drop 21 = .ok (.aload_n 0, 1) := by decide +kernel
theorem dX11_drop_22 : decode cX11_drop 22 = .ok (.getfield 10, 3) := by decide +kernel
theorem dX11_drop_25 : decode cX11_drop 25 = .ok (.invokevirtual 66, 3) := by decide +kernel
theorem dX11_drop_28 : decode cX11_drop 28 = .ok (.aload_n 0, 1) := by decide +kernel
theorem dX11_drop_29 : decode cX11_drop 29 = .ok (.getfield 10, 3) := by decide +kernel
theorem dX11_drop_32 : decode cX11_drop 32 = .ok (.getfield 70, 3) := by decide +kernel
theorem dX11_drop_35 : decode cX11_drop 35 = .ok (.iload_n 1, 1) := by decide +kernel
theorem dX11_drop_36 : decode cX11_drop 36 = .ok (.invokevirtual 213, 3) := by decide +kernel
theorem dX11_drop_39 : decode cX11_drop 39 = .ok (.aload_n 0, 1) := by decide +kernel
theorem dX11_drop_40 : decode cX11_drop 40 = .ok (.getfield 10, 3) := by decide +kernel
theorem dX11_drop_43 : decode cX11_drop 43 = .ok (.getfield 70, 3) := by decide +kernel
theorem dX11_drop_46 : decode cX11_drop 46 = .ok (.getfield 182, 3) := by decide +kernel
theorem dX11_drop_49 : decode cX11_drop 49 = .ok (.ireturn, 1) := by decide +kernel
theorem dX11_set_0 : decode cX11_set 0 = .ok (.iload_n 1, 1) := by decide +kernel
theorem dX11_set_1 : decode cX11_set 1 = .ok (.iload_n 2, 1) := by decide +kernel
theorem dX11_set_2 : decode cX11_set 2 = .ok (.invokestatic 217, 3) := by decide +kernel
theorem dX11_set_5 : decode cX11_set 5 = .ok (.ifCond .ne 6, 3) := by decide +kernel
theorem dX11_set_8 : decode cX11_set 8 = .ok (.ldc 52, 2) := by decide +kernel
theorem dX11_set_10 : decode cX11_set 10 = .ok (.ireturn, 1) := by decide +kernel
theorem dX11_set_11 : decode cX11_set 11 = .ok (.aload_n 0, 1) := by decide +kernel
theorem dX11_set_12 : decode cX11_set 12 = .ok (.getfield 19, 3) := by decide +kernel
theorem dX11_set_15 : decode cX11_set 15 = .ok (.aload_n 0, 1) := by decide +kernel
theorem dX11_set_16 : decode cX11_set 16 = .ok (.getfield 10, 3) := by decide +kernel
theorem dX11_set_19 : decode cX11_set 19 = .ok (.invokevirtual 66, 3) := by decide +kernel
theorem dX11_set_22 : decode cX11_set 22 = .ok (.aload_n 0, 1) := by decide +kernel
theorem dX11_set_23 : decode cX11_set 23 = .ok (.getfield 10, 3) := by decide +kernel
theorem dX11_set_26 : decode cX11_set 26 = .ok (.getfield 187, 3) := by decide +kernel
theorem dX11_set_29 : decode cX11_set 29 = .ok (.iload_n 1, 1) := by decide +kernel
theorem dX11_set_30 : decode cX11_set 30 = .ok (.iload_n 2, 1) := by decide +kernel
theorem dX11_set_31 : decode cX11_set 31 = .ok (.invokevirtual 221, 3) := by decide +kernel
theorem dX11_set_34 : decode cX11_set 34 = .ok (.ireturn, 1) := by decide +kernel
theorem dX11_walkOf_0 : decode cX11_walkOf 0 = .ok (.aload_n 0, 1) := by decide +kernel
theorem dX11_walkOf_1 : decode cX11_walkOf 1 = .ok (.getfield 10, 3) := by decide +kernel
theorem dX11_walkOf_4 : decode cX11_walkOf 4 = .ok (.getfield 70, 3) := by decide +kernel
theorem dX11_walkOf_7 : decode cX11_walkOf 7 = .ok (.iload_n 1, 1) := by decide +kernel
theorem dX11_walkOf_8 : decode cX11_walkOf 8 = .ok (.invokevirtual 163, 3) := by decide +kernel
theorem dX11_walkOf_11 : decode cX11_walkOf 11 = .ok (.astore_n 3, 1) := by decide +kernel
theorem dX11_walkOf_12 : decode cX11_walkOf 12 = .ok (.aload_n 3, 1) := by decide +kernel
theorem dX11_walkOf_13 : decode cX11_walkOf 13 = .ok (.ifnull 15, 3) := by decide +kernel
theorem dX11_walkOf_16 : decode cX11_walkOf 16 = .ok (.iload_n 2, 1) := by decide +kernel
theorem dX11_walkOf_17 : decode cX11_walkOf 17 = .ok (.i2l, 1) := by decide +kernel
theorem dX11_walkOf_18 : decode cX11_walkOf 18 = .ok (.lconst 0, 1) := by decide +kernel
theorem dX11_walkOf_19 : decode cX11_walkOf 19 = .ok (.ldc2_w 225, 3) := by decide +kernel
theorem dX11_walkOf_22 : decode cX11_walkOf 22 = .ok (.invokestatic 48, 3) := by decide +kernel
theorem dX11_walkOf_25 : decode cX11_walkOf 25 = .ok (.ifCond .ne 6, 3) := by decide +kernel
theorem dX11_walkOf_28 : decode cX11_walkOf 28 = .ok (.ldc 52, 2) := by decide +kernel
theorem dX11_walkOf_30 : decode cX11_walkOf 30 = .ok (.ireturn, 1) := by decide +kernel
theorem dX11_walkOf_31 : decode cX11_walkOf 31 = .ok (.iload_n 2, 1) := by decide +kernel
theorem dX11_walkOf_32 : decode cX11_walkOf 32 = .ok (.tableswitch 116 0 7 #[48, 53, 58, 63, 68, 74, 80, 98], 48) := by decide +kernel
theorem dX11_walkOf_80 : decode cX11_walkOf 80 = .ok (.aload_n 3, 1) := by decide +kernel
theorem dX11_walkOf_81 : decode cX11_walkOf 81 = .ok (.getfield 227, 3) := by decide +kernel
theorem dX11_walkOf_84 : decode cX11_walkOf 84 = .ok (.ireturn, 1) := by decide +kernel
theorem dX11_walkOf_85 : decode cX11_walkOf 85 = .ok (.aload_n 3, 1) := by decide +kernel
theorem dX11_walkOf_86 : decode cX11_walkOf 86 = .ok (.getfield 228, 3) := by decide +kernel
theorem dX11_walkOf_89 : decode cX11_walkOf 89 = .ok (.ireturn, 1) := by decide +kernel
theorem dX11_walkOf_90 : decode cX11_walkOf 90 = .ok (.aload_n 3, 1) := by decide +kernel
theorem dX11_walkOf_91 : decode cX11_walkOf 91 = .ok (.getfield 231, 3) := by decide +kernel
theorem dX11_walkOf_94 : decode cX11_walkOf 94 = .ok (.ireturn, 1) := by decide +kernel
theorem dX11_walkOf_95 : decode cX11_walkOf 95 = .ok (.aload_n 3, 1) := by decide +kernel
theorem dX11_walkOf_96 : decode cX11_walkOf 96 = .ok (.invokevirtual 205, 3) := by decide +kernel
theorem dX11_walkOf_99 : decode cX11_walkOf 99 = .ok (.ireturn, 1) := by decide +kernel
theorem dX11_walkOf_100 : decode cX11_walkOf 100 = .ok (.aload_n 3, 1) := by decide +kernel
theorem dX11_walkOf_101 : decode cX11_walkOf 101 = .ok (.iconst 1, 1) := by decide +kernel
theorem dX11_walkOf_102 : decode cX11_walkOf 102 = .ok (.invokevirtual 234, 3) := by decide +kernel
theorem dX11_walkOf_105 : decode cX11_walkOf 105 = .ok (.ireturn, 1) := by decide +kernel
theorem dX11_walkOf_106 : decode cX11_walkOf 106 = .ok (.aload_n 3, 1) := by decide +kernel
theorem dX11_walkOf_107 : decode cX11_walkOf 107 = .ok (.iconst 2, 1) := by decide +kernel
theorem dX11_walkOf_108 : decode cX11_walkOf 108 = .ok (.invokevirtual 234, 3) := by decide +kernel
theorem dX11_walkOf_111 : decode cX11_walkOf 111 = .ok (.ireturn, 1) := by decide +kernel
theorem dX11_walkOf_112 : decode cX11_walkOf 112 = .ok (.aload_n 3, 1) := by decide +kernel
theorem dX11_walkOf_113 : decode cX11_walkOf 113 = .ok (.getfield 237, 3) := by decide +kernel
theorem dX11_walkOf_116 : decode cX11_walkOf 116 = .ok (.iconst (-1), 1) := by decide +kernel
theorem dX11_walkOf_117 : decode cX11_walkOf 117 = .ok (.if_icmp .ne 8, 3) := by decide +kernel
theorem dX11_walkOf_120 : decode cX11_walkOf 120 = .ok (.ldc 98, 2) := by decide +kernel
theorem dX11_walkOf_122 : decode cX11_walkOf 122 = .ok (.goto 7, 3) := by decide +kernel
theorem dX11_walkOf_125 : decode cX11_walkOf 125 = .ok (.aload_n 3, 1) := by decide +kernel
theorem dX11_walkOf_126 : decode cX11_walkOf 126 = .ok (.getfield 237, 3) := by decide +kernel
theorem dX11_walkOf_129 : decode cX11_walkOf 129 = .ok (.ireturn, 1) := by decide +kernel
theorem dX11_walkOf_130 : decode cX11_walkOf 130 = .ok (.aload_n 3, 1) := by decide +kernel
theorem dX11_walkOf_131 : decode cX11_walkOf 131 = .ok (.getfield 237, 3) := by decide +kernel
theorem dX11_walkOf_134 : decode cX11_walkOf 134 = .ok (.iconst (-1), 1) := by decide +kernel
theorem dX11_walkOf_135 : decode cX11_walkOf 135 = .ok (.if_icmp .ne 8, 3) := by decide +kernel
theorem dX11_walkOf_138 : decode cX11_walkOf 138 = .ok (.ldc 98, 2) := by decide +kernel
theorem dX11_walkOf_140 : decode cX11_walkOf 140 = .ok (.goto 7, 3) := by decide +kernel
theorem dX11_walkOf_143 : decode cX11_walkOf 143 = .ok (.aload_n 3, 1) := by decide +kernel
theorem dX11_walkOf_144 : decode cX11_walkOf 144 = .ok (.getfield 240, 3) := by decide +kernel
theorem dX11_walkOf_147 : decode cX11_walkOf 147 = .ok (.ireturn, 1) := by decide +kernel
theorem dX11_walkOf_148 : decode cX11_walkOf 148 = .ok (.aload_n 0, 1) := by decide +kernel
theorem dX11_walkOf_149 : decode cX11_walkOf 149 = .ok (.getfield 10, 3) := by decide +kernel
theorem dX11_walkOf_152 : decode cX11_walkOf 152 = .ok (.getfield 70, 3) := by decide +kernel
theorem dX11_walkOf_155 : decode cX11_walkOf 155 = .ok (.iload_n 1, 1) := by decide +kernel
theorem dX11_walkOf_156 : decode cX11_walkOf 156 = .ok (.invokevirtual 243, 3) := by decide +kernel
theorem dX11_walkOf_159 : decode cX11_walkOf 159 = .ok (.iconst 1, 1) := by decide +kernel
theorem dX11_walkOf_160 : decode cX11_walkOf 160 = .ok (.isub, 1) := by decide +kernel
theorem dX11_walkOf_161 : decode cX11_walkOf 161 = .ok (.ireturn, 1) := by decide +kernel
theorem dX11_placeOf_0 : decode cX11_placeOf 0 = .ok (.aload_n 0, 1) := by decide +kernel
theorem dX11_placeOf_1 : decode cX11_placeOf 1 = .ok (.getfield 10, 3) := by decide +kernel
theorem dX11_placeOf_4 : decode cX11_placeOf 4 = .ok (.getfield 70, 3) := by decide +kernel
theorem dX11_placeOf_7 : decode cX11_placeOf 7 = .ok (.iload_n 1, 1) := by decide +kernel
theorem dX11_placeOf_8 : decode cX11_placeOf 8 = .ok (.invokevirtual 163, 3) := by decide +kernel
theorem dX11_placeOf_11 : decode cX11_placeOf 11 = .ok (.astore 4, 2) := by decide +kernel
theorem dX11_placeOf_13 : decode cX11_placeOf 13 = .ok (.aload 4, 2) := by decide +kernel
theorem dX11_placeOf_15 : decode cX11_placeOf 15 = .ok (.ifnull 19, 3) := by decide +kernel
theorem dX11_placeOf_18 : decode cX11_placeOf 18 = .ok (.iload_n 2, 1) := by decide +kernel
theorem dX11_placeOf_19 : decode cX11_placeOf 19 = .ok (.ifCond .lt 15, 3) := by decide +kernel
theorem dX11_placeOf_22 : decode cX11_placeOf 22 = .ok (.iload_n 3, 1) := by decide +kernel
theorem dX11_placeOf_23 : decode cX11_placeOf 23 = .ok (.i2l, 1) := by decide +kernel
theorem dX11_placeOf_24 : decode cX11_placeOf 24 = .ok (.lconst 0, 1) := by decide +kernel
theorem dX11_placeOf_25 : decode cX11_placeOf 25 = .ok (.ldc2_w 53, 3) := by decide +kernel
theorem dX11_placeOf_28 : decode cX11_placeOf 28 = .ok (.invokestatic 48, 3) := by decide +kernel
theorem dX11_placeOf_31 : decode cX11_placeOf 31 = .ok (.ifCond .ne 6, 3) := by decide +kernel
theorem dX11_placeOf_34 : decode cX11_placeOf 34 = .ok (.ldc 52, 2) := by decide +kernel
theorem dX11_placeOf_36 : decode cX11_placeOf 36 = .ok (.ireturn, 1) := by decide +kernel
theorem dX11_placeOf_37 : decode cX11_placeOf 37 = .ok (.aload 4, 2) := by decide +kernel
theorem dX11_placeOf_39 : decode cX11_placeOf 39 = .ok (.iload_n 2, 1) := by decide +kernel
theorem dX11_placeOf_40 : decode cX11_placeOf 40 = .ok (.invokevirtual 167, 3) := by decide +kernel
theorem dX11_placeOf_43 : decode cX11_placeOf 43 = .ok (.ifCond .ne 6, 3) := by decide +kernel
theorem dX11_placeOf_46 : decode cX11_placeOf 46 = .ok (.ldc 98, 2) := by decide +kernel
theorem dX11_placeOf_48 : decode cX11_placeOf 48 = .ok (.ireturn, 1) := by decide +kernel
theorem dX11_placeOf_49 : decode cX11_placeOf 49 = .ok (.iload_n 3, 1) := by decide +kernel
theorem dX11_placeOf_50 : decode cX11_placeOf 50 = .ok (.tableswitch 50 0 2 #[26, 34, 42], 26) := by decide +kernel
theorem dX11_placeOf_76 : decode cX11_placeOf 76 = .ok (.aload 4, 2) := by decide +kernel
theorem dX11_placeOf_78 : decode cX11_placeOf 78 = .ok (.getfield 246, 3) := by decide +kernel
theorem dX11_placeOf_81 : decode cX11_placeOf 81 = .ok (.iload_n 2, 1) := by decide +kernel
theorem dX11_placeOf_82 : decode cX11_placeOf 82 = .ok (.iaload, 1) := by decide +kernel
theorem dX11_placeOf_83 : decode cX11_placeOf 83 = .ok (.ireturn, 1) := by decide +kernel
theorem dX11_placeOf_84 : decode cX11_placeOf 84 = .ok (.aload 4, 2) := by decide +kernel
theorem dX11_placeOf_86 : decode cX11_placeOf 86 = .ok (.getfield 249, 3) := by decide +kernel
theorem dX11_placeOf_89 : decode cX11_placeOf 89 = .ok (.iload_n 2, 1) := by decide +kernel
theorem dX11_placeOf_90 : decode cX11_placeOf 90 = .ok (.iaload, 1) := by decide +kernel
theorem dX11_placeOf_91 : decode cX11_placeOf 91 = .ok (.ireturn, 1) := by decide +kernel
theorem dX11_placeOf_92 : decode cX11_placeOf 92 = .ok (.aload 4, 2) := by decide +kernel
theorem dX11_placeOf_94 : decode cX11_placeOf 94 = .ok (.getfield 252, 3) := by decide +kernel
theorem dX11_placeOf_97 : decode cX11_placeOf 97 = .ok (.iload_n 2, 1) := by decide +kernel
theorem dX11_placeOf_98 : decode cX11_placeOf 98 = .ok (.iaload, 1) := by decide +kernel
theorem dX11_placeOf_99 : decode cX11_placeOf 99 = .ok (.ireturn, 1) := by decide +kernel
theorem dX11_placeOf_100 : decode cX11_placeOf 100 = .ok (.aload 4, 2) := by decide +kernel
theorem dX11_placeOf_102 : decode cX11_placeOf 102 = .ok (.getfield 170, 3) := by decide +kernel
theorem dX11_placeOf_105 : decode cX11_placeOf 105 = .ok (.iload_n 2, 1) := by decide +kernel
theorem dX11_placeOf_106 : decode cX11_placeOf 106 = .ok (.iaload, 1) := by decide +kernel
theorem dX11_placeOf_107 : decode cX11_placeOf 107 = .ok (.ireturn, 1) := by decide +kernel
theorem dX11_count_0 : decode cX11_count 0 = .ok (.iload_n 1, 1) := by decide +kernel
theorem dX11_count_1 : decode cX11_count 1 = .ok (.tableswitch 155 0 12 #[67, 78, 89, 100, 112, 124, 132, 155, 155, 155, 140, 140, 140], 67) := by decide +kernel
theorem dX11_count_68 : decode cX11_count 68 = .ok (.aload_n 0, 1) := by decide +kernel
theorem dX11_count_69 : decode cX11_count 69 = .ok (.getfield 10, 3) := by decide +kernel
theorem dX11_count_72 : decode cX11_count 72 = .ok (.getfield 55, 3) := by decide +kernel
theorem dX11_count_75 : decode cX11_count 75 = .ok (.getfield 83, 3) := by decide +kernel
theorem dX11_count_78 : decode cX11_count 78 = .ok (.ireturn, 1) := by decide +kernel
theorem dX11_count_79 : decode cX11_count 79 = .ok (.aload_n 0, 1) := by decide +kernel
theorem dX11_count_80 : decode cX11_count 80 = .ok (.getfield 10, 3) := by decide +kernel
theorem dX11_count_83 : decode cX11_count 83 = .ok (.getfield 70, 3) := by decide +kernel
theorem dX11_count_86 : decode cX11_count 86 = .ok (.getfield 182, 3) := by decide +kernel
theorem dX11_count_89 : decode cX11_count 89 = .ok (.ireturn, 1) := by decide +kernel
theorem dX11_count_90 : decode cX11_count 90 = .ok (.aload_n 0, 1) := by decide +kernel
theorem dX11_count_91 : decode cX11_count 91 = .ok (.getfield 10, 3) := by decide +kernel
theorem dX11_count_94 : decode cX11_count 94 = .ok (.getfield 70, 3) := by decide +kernel
theorem dX11_count_97 : decode cX11_count 97 = .ok (.invokevirtual 254, 3) := by decide +kernel
theorem dX11_count_100 : decode cX11_count 100 = .ok (.ireturn, 1) := by decide +kernel
theorem dX11_count_101 : decode cX11_count 101 = .ok (.aload_n 0, 1) := by decide +kernel
theorem dX11_count_102 : decode cX11_count 102 = .ok (.getfield 10, 3) := by decide +kernel
theorem dX11_count_105 : decode cX11_count 105 = .ok (.getfield 70, 3) := by decide +kernel
theorem dX11_count_108 : decode cX11_count 108 = .ok (.iconst 1, 1) := by decide +kernel
theorem dX11_count_109 : decode cX11_count 109 = .ok (.invokevirtual 257, 3) := by decide +kernel
theorem dX11_count_112 : decode cX11_count 112 = .ok (.ireturn, 1) := by decide +kernel
theorem dX11_count_113 : decode cX11_count 113 = .ok (.aload_n 0, 1) := by decide +kernel
theorem dX11_count_114 : decode cX11_count 114 = .ok (.getfield 10, 3) := by decide +kernel
theorem dX11_count_117 : decode cX11_count 117 = .ok (.getfield 70, 3) := by decide +kernel
theorem dX11_count_120 : decode cX11_count 120 = .ok (.iconst 2, 1) := by decide +kernel
theorem dX11_count_121 : decode cX11_count 121 = .ok (.invokevirtual 257, 3) := by decide +kernel
theorem dX11_count_124 : decode cX11_count 124 = .ok (.ireturn, 1) := by decide +kernel
theorem dX11_count_125 : decode cX11_count 125 = .ok (.aload_n 0, 1) := by decide +kernel
theorem dX11_count_126 : decode cX11_count 126 = .ok (.getfield 19, 3) := by decide +kernel
theorem dX11_count_129 : decode cX11_count 129 = .ok (.getfield 258, 3) := by decide +kernel
theorem dX11_count_132 : decode cX11_count 132 = .ok (.ireturn, 1) := by decide +kernel
theorem dX11_count_133 : decode cX11_count 133 = .ok (.aload_n 0, 1) := by decide +kernel
theorem dX11_count_134 : decode cX11_count 134 = .ok (.getfield 33, 3) := by decide +kernel
theorem dX11_count_137 : decode cX11_count 137 = .ok (.getfield 259, 3) := by decide +kernel
theorem dX11_count_140 : decode cX11_count 140 = .ok (.ireturn, 1) := by decide +kernel
theorem dX11_count_141 : decode cX11_count 141 = .ok (.aload_n 0, 1) := by decide +kernel
theorem dX11_count_142 : decode cX11_count 142 = .ok (.getfield 10, 3) := by decide +kernel
theorem dX11_count_145 : decode cX11_count 145 = .ok (.getfield 187, 3) := by decide +kernel
theorem dX11_count_148 : decode cX11_count 148 = .ok (.iload_n 1, 1) := by decide +kernel
theorem dX11_count_149 : decode cX11_count 149 = .ok (.bipush 10, 2) := by decide +kernel
theorem dX11_count_151 : decode cX11_count 151 = .ok (.isub, 1) := by decide +kernel
theorem dX11_count_152 : decode cX11_count 152 = .ok (.invokevirtual 193, 3) := by decide +kernel
theorem dX11_count_155 : decode cX11_count 155 = .ok (.ireturn, 1) := by decide +kernel
theorem dX11_count_156 : decode cX11_count 156 = .ok (.ldc 52, 2) := by decide +kernel
theorem dX11_count_158 : decode cX11_count 158 = .ok (.ireturn, 1) := by decide +kernel
theorem dX11_nearest_0 : decode cX11_nearest 0 = .ok (.aload_n 0, 1) := by decide +kernel
theorem dX11_nearest_1 : decode cX11_nearest 1 = .ok (.getfield 10, 3) := by decide +kernel
theorem dX11_nearest_4 : decode cX11_nearest 4 = .ok (.getfield 70, 3) := by decide +kernel
theorem dX11_nearest_7 : decode cX11_nearest 7 = .ok (.iload_n 1, 1) := by decide +kernel
theorem dX11_nearest_8 : decode cX11_nearest 8 = .ok (.invokevirtual 163, 3) := by decide +kernel
theorem dX11_nearest_11 : decode cX11_nearest 11 = .ok (.astore 4, 2) := by decide +kernel
theorem dX11_nearest_13 : decode cX11_nearest 13 = .ok (.aload 4, 2) := by decide +kernel
theorem dX11_nearest_15 : decode cX11_nearest 15 = .ok (.ifnull 13, 3) := by decide +kernel
theorem dX11_nearest_18 : decode cX11_nearest 18 = .ok (.iload_n 2, 1) := by decide +kernel
theorem dX11_nearest_19 : decode cX11_nearest 19 = .ok (.i2l, 1) := by decide +kernel
theorem dX11_nearest_20 : decode cX11_nearest 20 = .ok (.iload_n 3, 1) := by decide +kernel
theorem dX11_nearest_21 : decode cX11_nearest 21 = .ok (.i2l, 1) := by decide +kernel
theorem dX11_nearest_22 : decode cX11_nearest 22 = .ok (.invokestatic 109, 3) := by decide +kernel
theorem dX11_nearest_25 : decode cX11_nearest 25 = .ok (.ifCond .ne 6, 3) := by decide +kernel
theorem dX11_nearest_28 : decode cX11_nearest 28 = .ok (.ldc 52, 2) := by decide +kernel
theorem dX11_nearest_30 : decode cX11_nearest 30 = .ok (.ireturn, 1) := by decide +kernel
theorem dX11_nearest_31 : decode cX11_nearest 31 = .ok (.aload 4, 2) := by decide +kernel
theorem dX11_nearest_33 : decode cX11_nearest 33 = .ok (.iload_n 2, 1) := by decide +kernel
theorem dX11_nearest_34 : decode cX11_nearest 34 = .ok (.i2l, 1) := by decide +kernel
theorem dX11_nearest_35 : decode cX11_nearest 35 = .ok (.iload_n 3, 1) := by decide +kernel
theorem dX11_nearest_36 : decode cX11_nearest 36 = .ok (.i2l, 1) := by decide +kernel
theorem dX11_nearest_37 : decode cX11_nearest 37 = .ok (.invokevirtual 276, 3) := by decide +kernel
theorem dX11_nearest_40 : decode cX11_nearest 40 = .ok (.ireturn, 1) := by decide +kernel
theorem dX11_undo_0 : decode cX11_undo 0 = .ok (.aload_n 0, 1) := by decide +kernel
theorem dX11_undo_1 : decode cX11_undo 1 = .ok (.getfield 19, 3) := by decide +kernel
theorem dX11_undo_4 : decode cX11_undo 4 = .ok (.getfield 258, 3) := by decide +kernel
theorem dX11_undo_7 : decode cX11_undo 7 = .ok (.ifCond .ne 6, 3) := by decide +kernel
theorem dX11_undo_10 : decode cX11_undo 10 = .ok (.ldc 91, 2) := by decide +kernel
theorem dX11_undo_12 : decode cX11_undo 12 = .ok (.ireturn, 1) := by decide +kernel
theorem dX11_undo_13 : decode cX11_undo 13 = .ok (.aload_n 0, 1) := by decide +kernel
theorem dX11_undo_14 : decode cX11_undo 14 = .ok (.getfield 19, 3) := by decide +kernel
theorem dX11_undo_17 : decode cX11_undo 17 = .ok (.aload_n 0, 1) := by decide +kernel
theorem dX11_undo_18 : decode cX11_undo 18 = .ok (.getfield 10, 3) := by decide +kernel
theorem dX11_undo_21 : decode cX11_undo 21 = .ok (.invokevirtual 280, 3) := by decide +kernel
theorem dX11_undo_24 : decode cX11_undo 24 = .ok (.aload_n 0, 1) := by decide +kernel
theorem dX11_undo_25 : decode cX11_undo 25 = .ok (.getfield 19, 3) := by decide +kernel
theorem dX11_undo_28 : decode cX11_undo 28 = .ok (.getfield 258, 3) := by decide +kernel
theorem dX11_undo_31 : decode cX11_undo 31 = .ok (.ireturn, 1) := by decide +kernel
theorem dX11_type_0 : decode cX11_type 0 = .ok (.iload_n 1, 1) := by decide +kernel
theorem dX11_type_1 : decode cX11_type 1 = .ok (.i2l, 1) := by decide +kernel
theorem dX11_type_2 : decode cX11_type 2 = .ok (.ldc2_w 283, 3) := by decide +kernel
theorem dX11_type_5 : decode cX11_type 5 = .ok (.ldc2_w 285, 3) := by decide +kernel
theorem dX11_type_8 : decode cX11_type 8 = .ok (.invokestatic 48, 3) := by decide +kernel
theorem dX11_type_11 : decode cX11_type 11 = .ok (.ifCond .ne 6, 3) := by decide +kernel
theorem dX11_type_14 : decode cX11_type 14 = .ok (.ldc 52, 2) := by decide +kernel
theorem dX11_type_16 : decode cX11_type 16 = .ok (.ireturn, 1) := by decide +kernel
theorem dX11_type_17 : decode cX11_type 17 = .ok (.aload_n 0, 1) := by decide +kernel
theorem dX11_type_18 : decode cX11_type 18 = .ok (.getfield 33, 3) := by decide +kernel
theorem dX11_type_21 : decode cX11_type 21 = .ok (.invokevirtual 287, 3) := by decide +kernel
theorem dX11_type_24 : decode cX11_type 24 = .ok (.ifCond .eq 6, 3) := by decide +kernel
theorem dX11_type_27 : decode cX11_type 27 = .ok (.ldc 65, 2) := by decide +kernel
theorem dX11_type_29 : decode cX11_type 29 = .ok (.ireturn, 1) := by decide +kernel
theorem dX11_type_30 : decode cX11_type 30 = .ok (.aload_n 0, 1) := by decide +kernel
theorem dX11_type_31 : decode cX11_type 31 = .ok (.getfield 33, 3) := by decide +kernel
theorem dX11_type_34 : decode cX11_type 34 = .ok (.iload_n 1, 1) := by decide +kernel
theorem dX11_type_35 : decode cX11_type 35 = .ok (.invokevirtual 288, 3) := by decide +kernel
theorem dX11_type_38 : decode cX11_type 38 = .ok (.aload_n 0, 1) := by decide +kernel
theorem dX11_type_39 : decode cX11_type 39 = .ok (.getfield 33, 3) := by decide +kernel
theorem dX11_type_42 : decode cX11_type 42 = .ok (.getfield 259, 3) := by decide +kernel
theorem dX11_type_45 : decode cX11_type 45 = .ok (.ireturn, 1) := by decide +kernel
theorem dX11_clearText_0 : decode cX11_clearText 0 = .ok (.aload_n 0, 1) := by decide +kernel
theorem dX11_clearText_1 : decode cX11_clearText 1 = .ok (.getfield 33, 3) := by decide +kernel
theorem dX11_clearText_4 : decode cX11_clearText 4 = .ok (.getfield 259, 3) := by decide +kernel
theorem dX11_clearText_7 : decode cX11_clearText 7 = .ok (.istore_n 1, 1) := by decide +kernel
theorem dX11_clearText_8 : decode cX11_clearText 8 = .ok (.aload_n 0, 1) := by decide +kernel
theorem dX11_clearText_9 : decode cX11_clearText 9 = .ok (.getfield 33, 3) := by decide +kernel
theorem dX11_clearText_12 : decode cX11_clearText 12 = .ok (.iconst 0, 1) := by decide +kernel
theorem dX11_clearText_13 : decode cX11_clearText 13 = .ok (.putfield 259, 3) := by decide +kernel
theorem dX11_clearText_16 : decode cX11_clearText 16 = .ok (.iload_n 1, 1) := by decide +kernel
theorem dX11_clearText_17 : decode cX11_clearText 17 = .ok (.ireturn, 1) := by decide +kernel
theorem dX11_fault_0 : decode cX11_fault 0 = .ok (.iload_n 1, 1) := by decide +kernel
theorem dX11_fault_1 : decode cX11_fault 1 = .ok (.i2l, 1) := by decide +kernel
theorem dX11_fault_2 : decode cX11_fault 2 = .ok (.lconst 0, 1) := by decide +kernel
theorem dX11_fault_3 : decode cX11_fault 3 = .ok (.lconst 1, 1) := by decide +kernel
theorem dX11_fault_4 : decode cX11_fault 4 = .ok (.invokestatic 48, 3) := by decide +kernel
theorem dX11_fault_7 : decode cX11_fault 7 = .ok (.ifCond .ne 6, 3) := by decide +kernel
theorem dX11_fault_10 : decode cX11_fault 10 = .ok (.ldc 52, 2) := by decide +kernel
theorem dX11_fault_12 : decode cX11_fault 12 = .ok (.ireturn, 1) := by decide +kernel
theorem dX11_fault_13 : decode cX11_fault 13 = .ok (.aload_n 0, 1) := by decide +kernel
theorem dX11_fault_14 : decode cX11_fault 14 = .ok (.getfield 40, 3) := by decide +kernel
theorem dX11_fault_17 : decode cX11_fault 17 = .ok (.aload_n 0, 1) := by decide +kernel
theorem dX11_fault_18 : decode cX11_fault 18 = .ok (.getfield 33, 3) := by decide +kernel
theorem dX11_fault_21 : decode cX11_fault 21 = .ok (.invokevirtual 291, 3) := by decide +kernel
theorem dX11_fault_24 : decode cX11_fault 24 = .ok (.aload_n 0, 1) := by decide +kernel
theorem dX11_fault_25 : decode cX11_fault 25 = .ok (.getfield 40, 3) := by decide +kernel
theorem dX11_fault_28 : decode cX11_fault 28 = .ok (.getfield 295, 3) := by decide +kernel
theorem dX11_fault_31 : decode cX11_fault 31 = .ok (.ifCond .ne 6, 3) := by decide +kernel
theorem dX11_fault_34 : decode cX11_fault 34 = .ok (.ldc 98, 2) := by decide +kernel
theorem dX11_fault_36 : decode cX11_fault 36 = .ok (.ireturn, 1) := by decide +kernel
theorem dX11_fault_37 : decode cX11_fault 37 = .ok (.iload_n 1, 1) := by decide +kernel
theorem dX11_fault_38 : decode cX11_fault 38 = .ok (.ifCond .ne 13, 3) := by decide +kernel
theorem dX11_fault_41 : decode cX11_fault 41 = .ok (.aload_n 0, 1) := by decide +kernel
theorem dX11_fault_42 : decode cX11_fault 42 = .ok (.getfield 40, 3) := by decide +kernel
theorem dX11_fault_45 : decode cX11_fault 45 = .ok (.getfield 298, 3) := by decide +kernel
theorem dX11_fault_48 : decode cX11_fault 48 = .ok (.goto 10, 3) := by decide +kernel
theorem dX11_fault_51 : decode cX11_fault 51 = .ok (.aload_n 0, 1) := by decide +kernel
theorem dX11_fault_52 : decode cX11_fault 52 = .ok (.getfield 40, 3) := by decide +kernel
theorem dX11_fault_55 : decode cX11_fault 55 = .ok (.getfield 295, 3) := by decide +kernel
theorem dX11_fault_58 : decode cX11_fault 58 = .ok (.ireturn, 1) := by decide +kernel
theorem dX11_read_0 : decode cX11_read 0 = .ok (.aload_n 0, 1) := by decide +kernel
theorem dX11_read_1 : decode cX11_read 1 = .ok (.getfield 40, 3) := by decide +kernel
theorem dX11_read_4 : decode cX11_read 4 = .ok (.aload_n 0, 1) := by decide +kernel
theorem dX11_read_5 : decode cX11_read 5 = .ok (.getfield 33, 3) := by decide +kernel
theorem dX11_read_8 : decode cX11_read 8 = .ok (.invokevirtual 291, 3) := by decide +kernel
theorem dX11_read_11 : decode cX11_read 11 = .ok (.aload_n 0, 1) := by decide +kernel
theorem dX11_read_12 : decode cX11_read 12 = .ok (.getfield 40, 3) := by decide +kernel
theorem dX11_read_15 : decode cX11_read 15 = .ok (.getfield 295, 3) := by decide +kernel
theorem dX11_read_18 : decode cX11_read 18 = .ok (.ifCond .eq 6, 3) := by decide +kernel
theorem dX11_read_21 : decode cX11_read 21 = .ok (.ldc 91, 2) := by decide +kernel
theorem dX11_read_23 : decode cX11_read 23 = .ok (.ireturn, 1) := by decide +kernel
theorem dX11_read_24 : decode cX11_read 24 = .ok (.aload_n 0, 1) := by decide +kernel
theorem dX11_read_25 : decode cX11_read 25 = .ok (.getfield 19, 3) := by decide +kernel
theorem dX11_read_28 : decode cX11_read 28 = .ok (.aload_n 0, 1) := by decide +kernel
theorem dX11_read_29 : decode cX11_read 29 = .ok (.getfield 10, 3) := by decide +kernel
theorem dX11_read_32 : decode cX11_read 32 = .ok (.invokevirtual 66, 3) := by decide +kernel
theorem dX11_read_35 : decode cX11_read 35 = .ok (.aload_n 0, 1) := by decide +kernel
theorem dX11_read_36 : decode cX11_read 36 = .ok (.getfield 10, 3) := by decide +kernel
theorem dX11_read_39 : decode cX11_read 39 = .ok (.getfield 70, 3) := by decide +kernel
theorem dX11_read_42 : decode cX11_read 42 = .ok (.invokevirtual 74, 3) := by decide +kernel
theorem dX11_read_45 : decode cX11_read 45 = .ok (.aload_n 0, 1) := by decide +kernel
theorem dX11_read_46 : decode cX11_read 46 = .ok (.getfield 10, 3) := by decide +kernel
