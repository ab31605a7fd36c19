theorem dX3_putLeaf_16 : decode cX3_putLeaf 16 = .ok (.aastore, 1) := by decide +kernel
theorem dX3_putLeaf_17 : decode cX3_putLeaf 17 = .ok (.aload_n 0, 1) := by decide +kernel
theorem dX3_putLeaf_18 : decode cX3_putLeaf 18 = .ok (.iload_n 1, 1) := by decide +kernel
theorem dX3_putLeaf_19 : decode cX3_putLeaf 19 = .ok (.invokevirtual 86, 3) := by decide +kernel
theorem dX3_putLeaf_22 : decode cX3_putLeaf 22 = .ok (.ireturn, 1) := by decide +kernel
theorem dX3_putCount_0 : decode cX3_putCount 0 = .ok (.lload_n 2, 1) := by decide +kernel
theorem dX3_putCount_1 : decode cX3_putCount 1 = .ok (.bipush 12, 2) := by decide +kernel
theorem dX3_putCount_3 : decode cX3_putCount 3 = .ok (.invokestatic 58, 3) := by decide +kernel
theorem dX3_putCount_6 : decode cX3_putCount 6 = .ok (.lstore 4, 2) := by decide +kernel
theorem dX3_putCount_8 : decode cX3_putCount 8 = .ok (.lload 4, 2) := by decide +kernel
theorem dX3_putCount_10 : decode cX3_putCount 10 = .ok (.invokestatic 90, 3) := by decide +kernel
theorem dX3_putCount_13 : decode cX3_putCount 13 = .ok (.ifCond .eq 8, 3) := by decide +kernel
theorem dX3_putCount_16 : decode cX3_putCount 16 = .ok (.bipush (-9), 2) := by decide +kernel
theorem dX3_putCount_18 : decode cX3_putCount 18 = .ok (.goto 19, 3) := by decide +kernel
theorem dX3_putCount_21 : decode cX3_putCount 21 = .ok (.aload_n 0, 1) := by decide +kernel
theorem dX3_putCount_22 : decode cX3_putCount 22 = .ok (.iload_n 1, 1) := by decide +kernel
theorem dX3_putCount_23 : decode cX3_putCount 23 = .ok (.lload 4, 2) := by decide +kernel
theorem dX3_putCount_25 : decode cX3_putCount 25 = .ok (.l2i, 1) := by decide +kernel
theorem dX3_putCount_26 : decode cX3_putCount 26 = .ok (.iconst 1, 1) := by decide +kernel
theorem dX3_putCount_27 : decode cX3_putCount 27 = .ok (.lload_n 2, 1) := by decide +kernel
theorem dX3_putCount_28 : decode cX3_putCount 28 = .ok (.bipush 12, 2) := by decide +kernel
theorem dX3_putCount_30 : decode cX3_putCount 30 = .ok (.invokestatic 51, 3) := by decide +kernel
theorem dX3_putCount_33 : decode cX3_putCount 33 = .ok (.iadd, 1) := by decide +kernel
theorem dX3_putCount_34 : decode cX3_putCount 34 = .ok (.invokevirtual 93, 3) := by decide +kernel
theorem dX3_putCount_37 : decode cX3_putCount 37 = .ok (.ireturn, 1) := by decide +kernel
theorem dX3_leaf_0 : decode cX3_leaf 0 = .ok (.aload_n 0, 1) := by decide +kernel
theorem dX3_leaf_1 : decode cX3_leaf 1 = .ok (.iload_n 1, 1) := by decide +kernel
theorem dX3_leaf_2 : decode cX3_leaf 2 = .ok (.invokestatic 96, 3) := by decide +kernel
theorem dX3_leaf_5 : decode cX3_leaf 5 = .ok (.iload_n 2, 1) := by decide +kernel
theorem dX3_leaf_6 : decode cX3_leaf 6 = .ok (.i2l, 1) := by decide +kernel
theorem dX3_leaf_7 : decode cX3_leaf 7 = .ok (.invokestatic 90, 3) := by decide +kernel
theorem dX3_leaf_10 : decode cX3_leaf 10 = .ok (.ifCond .ne 10, 3) := by decide +kernel
theorem dX3_leaf_13 : decode cX3_leaf 13 = .ok (.iload_n 3, 1) := by decide +kernel
theorem dX3_leaf_14 : decode cX3_leaf 14 = .ok (.invokestatic 100, 3) := by decide +kernel
theorem dX3_leaf_17 : decode cX3_leaf 17 = .ok (.ifCond .eq 7, 3) := by decide +kernel
theorem dX3_leaf_20 : decode cX3_leaf 20 = .ok (.iconst 1, 1) := by decide +kernel
theorem dX3_leaf_21 : decode cX3_leaf 21 = .ok (.goto 4, 3) := by decide +kernel
theorem dX3_leaf_24 : decode cX3_leaf 24 = .ok (.iconst 0, 1) := by decide +kernel
theorem dX3_leaf_25 : decode cX3_leaf 25 = .ok (.invokevirtual 103, 3) := by decide +kernel
theorem dX3_leaf_28 : decode cX3_leaf 28 = .ok (.ifCond .eq 7, 3) := by decide +kernel
theorem dX3_leaf_31 : decode cX3_leaf 31 = .ok (.iconst 0, 1) := by decide +kernel
theorem dX3_leaf_32 : decode cX3_leaf 32 = .ok (.goto 10, 3) := by decide +kernel
theorem dX3_leaf_35 : decode cX3_leaf 35 = .ok (.aload_n 0, 1) := by decide +kernel
theorem dX3_leaf_36 : decode cX3_leaf 36 = .ok (.iload_n 1, 1) := by decide +kernel
theorem dX3_leaf_37 : decode cX3_leaf 37 = .ok (.iload_n 2, 1) := by decide +kernel
theorem dX3_leaf_38 : decode cX3_leaf 38 = .ok (.iload_n 3, 1) := by decide +kernel
theorem dX3_leaf_39 : decode cX3_leaf 39 = .ok (.invokevirtual 93, 3) := by decide +kernel
theorem dX3_leaf_42 : decode cX3_leaf 42 = .ok (.ireturn, 1) := by decide +kernel
theorem dX3_leafRound_0 : decode cX3_leafRound 0 = .ok (.aload_n 0, 1) := by decide +kernel
theorem dX3_leafRound_1 : decode cX3_leafRound 1 = .ok (.iload_n 1, 1) := by decide +kernel
theorem dX3_leafRound_2 : decode cX3_leafRound 2 = .ok (.invokestatic 96, 3) := by decide +kernel
theorem dX3_leafRound_5 : decode cX3_leafRound 5 = .ok (.iload_n 2, 1) := by decide +kernel
theorem dX3_leafRound_6 : decode cX3_leafRound 6 = .ok (.i2l, 1) := by decide +kernel
theorem dX3_leafRound_7 : decode cX3_leafRound 7 = .ok (.invokestatic 90, 3) := by decide +kernel
theorem dX3_leafRound_10 : decode cX3_leafRound 10 = .ok (.invokevirtual 103, 3) := by decide +kernel
theorem dX3_leafRound_13 : decode cX3_leafRound 13 = .ok (.ifCond .eq 5, 3) := by decide +kernel
theorem dX3_leafRound_16 : decode cX3_leafRound 16 = .ok (.iconst 0, 1) := by decide +kernel
theorem dX3_leafRound_17 : decode cX3_leafRound 17 = .ok (.ireturn, 1) := by decide +kernel
theorem dX3_leafRound_18 : decode cX3_leafRound 18 = .ok (.aload_n 0, 1) := by decide +kernel
theorem dX3_leafRound_19 : decode cX3_leafRound 19 = .ok (.iload_n 1, 1) := by decide +kernel
theorem dX3_leafRound_20 : decode cX3_leafRound 20 = .ok (.iload_n 2, 1) := by decide +kernel
theorem dX3_leafRound_21 : decode cX3_leafRound 21 = .ok (.iload_n 3, 1) := by decide +kernel
theorem dX3_leafRound_22 : decode cX3_leafRound 22 = .ok (.invokestatic 107, 3) := by decide +kernel
theorem dX3_leafRound_25 : decode cX3_leafRound 25 = .ok (.invokevirtual 93, 3) := by decide +kernel
theorem dX3_leafRound_28 : decode cX3_leafRound 28 = .ok (.pop, 1) := by decide +kernel
theorem dX3_leafRound_29 : decode cX3_leafRound 29 = .ok (.iload_n 3, 1) := by decide +kernel
theorem dX3_leafRound_30 : decode cX3_leafRound 30 = .ok (.invokestatic 107, 3) := by decide +kernel
theorem dX3_leafRound_33 : decode cX3_leafRound 33 = .ok (.ireturn, 1) := by decide +kernel
theorem dX3_months_0 : decode cX3_months 0 = .ok (.aload_n 0, 1) := by decide +kernel
theorem dX3_months_1 : decode cX3_months 1 = .ok (.iload_n 1, 1) := by decide +kernel
theorem dX3_months_2 : decode cX3_months 2 = .ok (.invokestatic 96, 3) := by decide +kernel
theorem dX3_months_5 : decode cX3_months 5 = .ok (.iconst 0, 1) := by decide +kernel
theorem dX3_months_6 : decode cX3_months 6 = .ok (.invokevirtual 103, 3) := by decide +kernel
theorem dX3_months_9 : decode cX3_months 9 = .ok (.ifCond .eq 7, 3) := by decide +kernel
theorem dX3_months_12 : decode cX3_months 12 = .ok (.iconst 0, 1) := by decide +kernel
theorem dX3_months_13 : decode cX3_months 13 = .ok (.goto 24, 3) := by decide +kernel
theorem dX3_months_16 : decode cX3_months 16 = .ok (.aload_n 0, 1) := by decide +kernel
theorem dX3_months_17 : decode cX3_months 17 = .ok (.iload_n 1, 1) := by decide +kernel
theorem dX3_months_18 : decode cX3_months 18 = .ok (.aload_n 0, 1) := by decide +kernel
theorem dX3_months_19 : decode cX3_months 19 = .ok (.getfield 9, 3) := by decide +kernel
theorem dX3_months_22 : decode cX3_months 22 = .ok (.iload_n 1, 1) := by decide +kernel
theorem dX3_months_23 : decode cX3_months 23 = .ok (.aaload, 1) := by decide +kernel
theorem dX3_months_24 : decode cX3_months 24 = .ok (.invokestatic 110, 3) := by decide +kernel
theorem dX3_months_27 : decode cX3_months 27 = .ok (.iload_n 2, 1) := by decide +kernel
theorem dX3_months_28 : decode cX3_months 28 = .ok (.i2l, 1) := by decide +kernel
theorem dX3_months_29 : decode cX3_months 29 = .ok (.iload_n 3, 1) := by decide +kernel
theorem dX3_months_30 : decode cX3_months 30 = .ok (.invokestatic 113, 3) := by decide +kernel
theorem dX3_months_33 : decode cX3_months 33 = .ok (.ladd, 1) := by decide +kernel
theorem dX3_months_34 : decode cX3_months 34 = .ok (.invokevirtual 117, 3) := by decide +kernel
theorem dX3_months_37 : decode cX3_months 37 = .ok (.ireturn, 1) := by decide +kernel
theorem dX3_years_0 : decode cX3_years 0 = .ok (.aload_n 0, 1) := by decide +kernel
theorem dX3_years_1 : decode cX3_years 1 = .ok (.iload_n 1, 1) := by decide +kernel
theorem dX3_years_2 : decode cX3_years 2 = .ok (.invokestatic 96, 3) := by decide +kernel
theorem dX3_years_5 : decode cX3_years 5 = .ok (.iconst 0, 1) := by decide +kernel
theorem dX3_years_6 : decode cX3_years 6 = .ok (.invokevirtual 103, 3) := by decide +kernel
theorem dX3_years_9 : decode cX3_years 9 = .ok (.ifCond .eq 7, 3) := by decide +kernel
theorem dX3_years_12 : decode cX3_years 12 = .ok (.iconst 0, 1) := by decide +kernel
theorem dX3_years_13 : decode cX3_years 13 = .ok (.goto 28, 3) := by decide +kernel
theorem dX3_years_16 : decode cX3_years 16 = .ok (.aload_n 0, 1) := by decide +kernel
theorem dX3_years_17 : decode cX3_years 17 = .ok (.iload_n 1, 1) := by decide +kernel
theorem dX3_years_18 : decode cX3_years 18 = .ok (.aload_n 0, 1) := by decide +kernel
theorem dX3_years_19 : decode cX3_years 19 = .ok (.getfield 9, 3) := by decide +kernel
theorem dX3_years_22 : decode cX3_years 22 = .ok (.iload_n 1, 1) := by decide +kernel
theorem dX3_years_23 : decode cX3_years 23 = .ok (.aaload, 1) := by decide +kernel
theorem dX3_years_24 : decode cX3_years 24 = .ok (.invokestatic 110, 3) := by decide +kernel
theorem dX3_years_27 : decode cX3_years 27 = .ok (.ldc2_w 38, 3) := by decide +kernel
theorem dX3_years_30 : decode cX3_years 30 = .ok (.iload_n 2, 1) := by decide +kernel
theorem dX3_years_31 : decode cX3_years 31 = .ok (.i2l, 1) := by decide +kernel
theorem dX3_years_32 : decode cX3_years 32 = .ok (.iload_n 3, 1) := by decide +kernel
theorem dX3_years_33 : decode cX3_years 33 = .ok (.invokestatic 113, 3) := by decide +kernel
theorem dX3_years_36 : decode cX3_years 36 = .ok (.lmul, 1) := by decide +kernel
theorem dX3_years_37 : decode cX3_years 37 = .ok (.ladd, 1) := by decide +kernel
theorem dX3_years_38 : decode cX3_years 38 = .ok (.invokevirtual 117, 3) := by decide +kernel
theorem dX3_years_41 : decode cX3_years 41 = .ok (.ireturn, 1) := by decide +kernel
theorem dX3_units_0 : decode cX3_units 0 = .ok (.aload_n 0, 1) := by decide +kernel
theorem dX3_units_1 : decode cX3_units 1 = .ok (.iload_n 1, 1) := by decide +kernel
theorem dX3_units_2 : decode cX3_units 2 = .ok (.invokestatic 96, 3) := by decide +kernel
theorem dX3_units_5 : decode cX3_units 5 = .ok (.iload_n 2, 1) := by decide +kernel
theorem dX3_units_6 : decode cX3_units 6 = .ok (.i2l, 1) := by decide +kernel
theorem dX3_units_7 : decode cX3_units 7 = .ok (.lconst 0, 1) := by decide +kernel
theorem dX3_units_8 : decode cX3_units 8 = .ok (.ldc2_w 121, 3) := by decide +kernel
theorem dX3_units_11 : decode cX3_units 11 = .ok (.invokestatic 30, 3) := by decide +kernel
theorem dX3_units_14 : decode cX3_units 14 = .ok (.ifCond .ne 7, 3) := by decide +kernel
theorem dX3_units_17 : decode cX3_units 17 = .ok (.iconst 1, 1) := by decide +kernel
theorem dX3_units_18 : decode cX3_units 18 = .ok (.goto 4, 3) := by decide +kernel
theorem dX3_units_21 : decode cX3_units 21 = .ok (.iconst 0, 1) := by decide +kernel
theorem dX3_units_22 : decode cX3_units 22 = .ok (.invokevirtual 103, 3) := by decide +kernel
theorem dX3_units_25 : decode cX3_units 25 = .ok (.ifCond .eq 7, 3) := by decide +kernel
theorem dX3_units_28 : decode cX3_units 28 = .ok (.iconst 0, 1) := by decide +kernel
theorem dX3_units_29 : decode cX3_units 29 = .ok (.goto 32, 3) := by decide +kernel
theorem dX3_units_32 : decode cX3_units 32 = .ok (.aload_n 0, 1) := by decide +kernel
theorem dX3_units_33 : decode cX3_units 33 = .ok (.iload_n 1, 1) := by decide +kernel
theorem dX3_units_34 : decode cX3_units 34 = .ok (.aload_n 0, 1) := by decide +kernel
theorem dX3_units_35 : decode cX3_units 35 = .ok (.getfield 9, 3) := by decide +kernel
theorem dX3_units_38 : decode cX3_units 38 = .ok (.iload_n 1, 1) := by decide +kernel
theorem dX3_units_39 : decode cX3_units 39 = .ok (.aaload, 1) := by decide +kernel
theorem dX3_units_40 : decode cX3_units 40 = .ok (.invokestatic 110, 3) := by decide +kernel
theorem dX3_units_43 : decode cX3_units 43 = .ok (.getstatic 123, 3) := by decide +kernel
theorem dX3_units_46 : decode cX3_units 46 = .ok (.iload_n 2, 1) := by decide +kernel
theorem dX3_units_47 : decode cX3_units 47 = .ok (.iaload, 1) := by decide +kernel
theorem dX3_units_48 : decode cX3_units 48 = .ok (.i2l, 1) := by decide +kernel
theorem dX3_units_49 : decode cX3_units 49 = .ok (.iload_n 3, 1) := by decide +kernel
theorem dX3_units_50 : decode cX3_units 50 = .ok (.i2l, 1) := by decide +kernel
theorem dX3_units_51 : decode cX3_units 51 = .ok (.iload 4, 2) := by decide +kernel
theorem dX3_units_53 : decode cX3_units 53 = .ok (.invokestatic 113, 3) := by decide +kernel
theorem dX3_units_56 : decode cX3_units 56 = .ok (.lmul, 1) := by decide +kernel
theorem dX3_units_57 : decode cX3_units 57 = .ok (.ladd, 1) := by decide +kernel
theorem dX3_units_58 : decode cX3_units 58 = .ok (.invokevirtual 117, 3) := by decide +kernel
theorem dX3_units_61 : decode cX3_units 61 = .ok (.ireturn, 1) := by decide +kernel
theorem dX3_both_0 : decode cX3_both 0 = .ok (.aload_n 0, 1) := by decide +kernel
theorem dX3_both_1 : decode cX3_both 1 = .ok (.iload_n 1, 1) := by decide +kernel
theorem dX3_both_2 : decode cX3_both 2 = .ok (.invokestatic 96, 3) := by decide +kernel
theorem dX3_both_5 : decode cX3_both 5 = .ok (.iload_n 2, 1) := by decide +kernel
theorem dX3_both_6 : decode cX3_both 6 = .ok (.i2l, 1) := by decide +kernel
theorem dX3_both_7 : decode cX3_both 7 = .ok (.ldc2_w 126, 3) := by decide +kernel
theorem dX3_both_10 : decode cX3_both 10 = .ok (.ldc2_w 128, 3) := by decide +kernel
theorem dX3_both_13 : decode cX3_both 13 = .ok (.invokestatic 30, 3) := by decide +kernel
theorem dX3_both_16 : decode cX3_both 16 = .ok (.ifCond .eq 17, 3) := by decide +kernel
theorem dX3_both_19 : decode cX3_both 19 = .ok (.iload_n 3, 1) := by decide +kernel
theorem dX3_both_20 : decode cX3_both 20 = .ok (.i2l, 1) := by decide +kernel
theorem dX3_both_21 : decode cX3_both 21 = .ok (.ldc2_w 126, 3) := by decide +kernel
theorem dX3_both_24 : decode cX3_both 24 = .ok (.ldc2_w 128, 3) := by decide +kernel
theorem dX3_both_27 : decode cX3_both 27 = .ok (.invokestatic 30, 3) := by decide +kernel
theorem dX3_both_30 : decode cX3_both 30 = .ok (.ifCond .ne 7, 3) := by decide +kernel
theorem dX3_both_33 : decode cX3_both 33 = .ok (.iconst 1, 1) := by decide +kernel
theorem dX3_both_34 : decode cX3_both 34 = .ok (.goto 4, 3) := by decide +kernel
theorem dX3_both_37 : decode cX3_both 37 = .ok (.iconst 0, 1) := by decide +kernel
theorem dX3_both_38 : decode cX3_both 38 = .ok (.invokevirtual 103, 3) := by decide +kernel
theorem dX3_both_41 : decode cX3_both 41 = .ok (.ifCond .eq 5, 3) := by decide +kernel
theorem dX3_both_44 : decode cX3_both 44 = .ok (.iconst 0, 1) := by decide +kernel
theorem dX3_both_45 : decode cX3_both 45 = .ok (.ireturn, 1) := by decide +kernel
theorem dX3_both_46 : decode cX3_both 46 = .ok (.aload_n 0, 1) := by decide +kernel
theorem dX3_both_47 : decode cX3_both 47 = .ok (.iload_n 1, 1) := by decide +kernel
theorem dX3_both_48 : decode cX3_both 48 = .ok (.aload_n 0, 1) := by decide +kernel
theorem dX3_both_49 : decode cX3_both 49 = .ok (.getfield 9, 3) := by decide +kernel
theorem dX3_both_52 : decode cX3_both 52 = .ok (.iload_n 1, 1) := by decide +kernel
theorem dX3_both_53 : decode cX3_both 53 = .ok (.aaload, 1) := by decide +kernel
theorem dX3_both_54 : decode cX3_both 54 = .ok (.invokestatic 110, 3) := by decide +kernel
theorem dX3_both_57 : decode cX3_both 57 = .ok (.ldc2_w 38, 3) := by decide +kernel
theorem dX3_both_60 : decode cX3_both 60 = .ok (.iload_n 2, 1) := by decide +kernel
theorem dX3_both_61 : decode cX3_both 61 = .ok (.i2l, 1) := by decide +kernel
theorem dX3_both_62 : decode cX3_both 62 = .ok (.lmul, 1) := by decide +kernel
theorem dX3_both_63 : decode cX3_both 63 = .ok (.iload_n 3, 1) := by decide +kernel
theorem dX3_both_64 : decode cX3_both 64 = .ok (.i2l, 1) := by decide +kernel
theorem dX3_both_65 : decode cX3_both 65 = .ok (.ladd, 1) := by decide +kernel
theorem dX3_both_66 : decode cX3_both 66 = .ok (.iload 4, 2) := by decide +kernel
theorem dX3_both_68 : decode cX3_both 68 = .ok (.invokestatic 113, 3) := by decide +kernel
theorem dX3_both_71 : decode cX3_both 71 = .ok (.ladd, 1) := by decide +kernel
theorem dX3_both_72 : decode cX3_both 72 = .ok (.invokevirtual 117, 3) := by decide +kernel
theorem dX3_both_75 : decode cX3_both 75 = .ok (.ireturn, 1) := by decide +kernel
theorem dX3_leafYear_0 : decode cX3_leafYear 0 = .ok (.aload_n 0, 1) := by decide +kernel
theorem dX3_leafYear_1 : decode cX3_leafYear 1 = .ok (.iload_n 1, 1) := by decide +kernel
theorem dX3_leafYear_2 : decode cX3_leafYear 2 = .ok (.invokestatic 96, 3) := by decide +kernel
theorem dX3_leafYear_5 : decode cX3_leafYear 5 = .ok (.iload_n 2, 1) := by decide +kernel
theorem dX3_leafYear_6 : decode cX3_leafYear 6 = .ok (.i2l, 1) := by decide +kernel
theorem dX3_leafYear_7 : decode cX3_leafYear 7 = .ok (.invokestatic 90, 3) := by decide +kernel
theorem dX3_leafYear_10 : decode cX3_leafYear 10 = .ok (.invokevirtual 103, 3) := by decide +kernel
theorem dX3_leafYear_13 : decode cX3_leafYear 13 = .ok (.ifCond .eq 5, 3) := by decide +kernel
theorem dX3_leafYear_16 : decode cX3_leafYear 16 = .ok (.iconst 0, 1) := by decide +kernel
theorem dX3_leafYear_17 : decode cX3_leafYear 17 = .ok (.ireturn, 1) := by decide +kernel
theorem dX3_leafYear_18 : decode cX3_leafYear 18 = .ok (.aload_n 0, 1) := by decide +kernel
theorem dX3_leafYear_19 : decode cX3_leafYear 19 = .ok (.getfield 9, 3) := by decide +kernel
theorem dX3_leafYear_22 : decode cX3_leafYear 22 = .ok (.iload_n 1, 1) := by decide +kernel
theorem dX3_leafYear_23 : decode cX3_leafYear 23 = .ok (.aaload, 1) := by decide +kernel
theorem dX3_leafYear_24 : decode cX3_leafYear 24 = .ok (.iconst 0, 1) := by decide +kernel
theorem dX3_leafYear_25 : decode cX3_leafYear 25 = .ok (.iaload, 1) := by decide +kernel
theorem dX3_leafYear_26 : decode cX3_leafYear 26 = .ok (.istore_n 3, 1) := by decide +kernel
theorem dX3_leafYear_27 : decode cX3_leafYear 27 = .ok (.aload_n 0, 1) := by decide +kernel
theorem dX3_leafYear_28 : decode cX3_leafYear 28 = .ok (.iload_n 1, 1) := by decide +kernel
theorem dX3_leafYear_29 : decode cX3_leafYear 29 = .ok (.iload_n 2, 1) := by decide +kernel
theorem dX3_leafYear_30 : decode cX3_leafYear 30 = .ok (.aload_n 0, 1) := by decide +kernel
theorem dX3_leafYear_31 : decode cX3_leafYear 31 = .ok (.getfield 9, 3) := by decide +kernel
theorem dX3_leafYear_34 : decode cX3_leafYear 34 = .ok (.iload_n 1, 1) := by decide +kernel
theorem dX3_leafYear_35 : decode cX3_leafYear 35 = .ok (.aaload, 1) := by decide +kernel
theorem dX3_leafYear_36 : decode cX3_leafYear 36 = .ok (.iconst 1, 1) := by decide +kernel
theorem dX3_leafYear_37 : decode cX3_leafYear 37 = .ok (.iaload, 1) := by decide +kernel
theorem dX3_leafYear_38 : decode cX3_leafYear 38 = .ok (.invokevirtual 93, 3) := by decide +kernel
theorem dX3_leafYear_41 : decode cX3_leafYear 41 = .ok (.pop, 1) := by decide +kernel
theorem dX3_leafYear_42 : decode cX3_leafYear 42 = .ok (.iload_n 3, 1) := by decide +kernel
theorem dX3_leafYear_43 : decode cX3_leafYear 43 = .ok (.ireturn, 1) := by decide +kernel
theorem dX3_leafMonth_0 : decode cX3_leafMonth 0 = .ok (.aload_n 0, 1) := by decide +kernel
theorem dX3_leafMonth_1 : decode cX3_leafMonth 1 = .ok (.iload_n 1, 1) := by decide +kernel
theorem dX3_leafMonth_2 : decode cX3_leafMonth 2 = .ok (.invokestatic 96, 3) := by decide +kernel
theorem dX3_leafMonth_5 : decode cX3_leafMonth 5 = .ok (.iload_n 2, 1) := by decide +kernel
theorem dX3_leafMonth_6 : decode cX3_leafMonth 6 = .ok (.invokestatic 100, 3) := by decide +kernel
theorem dX3_leafMonth_9 : decode cX3_leafMonth 9 = .ok (.invokevirtual 103, 3) := by decide +kernel
theorem dX3_leafMonth_12 : decode cX3_leafMonth 12 = .ok (.ifCond .eq 5, 3) := by decide +kernel
theorem dX3_leafMonth_15 : decode cX3_leafMonth 15 = .ok (.iconst 0, 1) := by decide +kernel
theorem dX3_leafMonth_16 : decode cX3_leafMonth 16 = .ok (.ireturn, 1) := by decide +kernel
theorem dX3_leafMonth_17 : decode cX3_leafMonth 17 = .ok (.aload_n 0, 1) := by decide +kernel
theorem dX3_leafMonth_18 : decode cX3_leafMonth 18 = .ok (.getfield 9, 3) := by decide +kernel
theorem dX3_leafMonth_21 : decode cX3_leafMonth 21 = .ok (.iload_n 1, 1) := by decide +kernel
theorem dX3_leafMonth_22 : decode cX3_leafMonth 22 = .ok (.aaload, 1) := by decide +kernel
theorem dX3_leafMonth_23 : decode cX3_leafMonth 23 = .ok (.iconst 1, 1) := by decide +kernel
theorem dX3_leafMonth_24 : decode cX3_leafMonth 24 = .ok (.iaload, 1) := by decide +kernel
theorem dX3_leafMonth_25 : decode cX3_leafMonth 25 = .ok (.istore_n 3, 1) := by decide +kernel
theorem dX3_leafMonth_26 : decode cX3_leafMonth 26 = .ok (.aload_n 0, 1) := by decide +kernel
theorem dX3_leafMonth_27 : decode cX3_leafMonth 27 = .ok (.iload_n 1, 1) := by decide +kernel
theorem dX3_leafMonth_28 : decode cX3_leafMonth 28 = .ok (.aload_n 0, 1) := by decide +kernel
theorem dX3_leafMonth_29 : decode cX3_leafMonth 29 = .ok (.getfield 9, 3) := by decide +kernel
theorem dX3_leafMonth_32 : decode cX3_leafMonth 32 = .ok (.iload_n 1, 1) := by decide +kernel
theorem dX3_leafMonth_33 : decode cX3_leafMonth 33 = .ok (.aaload, 1) := by decide +kernel
theorem dX3_leafMonth_34 : decode cX3_leafMonth 34 = .ok (.iconst 0, 1) := by decide +kernel
theorem dX3_leafMonth_35 : decode cX3_leafMonth 35 = .ok (.iaload, 1) := by decide +kernel
theorem dX3_leafMonth_36 : decode cX3_leafMonth 36 = .ok (.iload_n 2, 1) := by decide +kernel
theorem dX3_leafMonth_37 : decode cX3_leafMonth 37 = .ok (.invokevirtual 93, 3) := by decide +kernel
theorem dX3_leafMonth_40 : decode cX3_leafMonth 40 = .ok (.pop, 1) := by decide +kernel
theorem dX3_leafMonth_41 : decode cX3_leafMonth 41 = .ok (.iload_n 3, 1) := by decide +kernel
theorem dX3_leafMonth_42 : decode cX3_leafMonth 42 = .ok (.ireturn, 1) := by decide +kernel
theorem dX3_isNoThing_0 : decode cX3_isNoThing 0 = .ok (.iload_n 0, 1) := by decide +kernel
theorem dX3_isNoThing_1 : decode cX3_isNoThing 1 = .ok (.ifCond .ne 10, 3) := by decide +kernel
theorem dX3_isNoThing_4 : decode cX3_isNoThing 4 = .ok (.iload_n 1, 1) := by decide +kernel
theorem dX3_isNoThing_5 : decode cX3_isNoThing 5 = .ok (.invokestatic 100, 3) := by decide +kernel
theorem dX3_isNoThing_8 : decode cX3_isNoThing 8 = .ok (.goto 61, 3) := by decide +kernel
theorem dX3_isNoThing_11 : decode cX3_isNoThing 11 = .ok (.iload_n 0, 1) := by decide +kernel
theorem dX3_isNoThing_12 : decode cX3_isNoThing 12 = .ok (.iconst 1, 1) := by decide +kernel
theorem dX3_isNoThing_13 : decode cX3_isNoThing 13 = .ok (.if_icmp .ne 11, 3) := by decide +kernel
theorem dX3_isNoThing_16 : decode cX3_isNoThing 16 = .ok (.iload_n 1, 1) := by decide +kernel
theorem dX3_isNoThing_17 : decode cX3_isNoThing 17 = .ok (.i2l, 1) := by decide +kernel
theorem dX3_isNoThing_18 : decode cX3_isNoThing 18 = .ok (.invokestatic 90, 3) := by decide +kernel
theorem dX3_isNoThing_21 : decode cX3_isNoThing 21 = .ok (.goto 48, 3) := by decide +kernel
theorem dX3_isNoThing_24 : decode cX3_isNoThing 24 = .ok (.iload_n 0, 1) := by decide +kernel
theorem dX3_isNoThing_25 : decode cX3_isNoThing 25 = .ok (.iconst 2, 1) := by decide +kernel
theorem dX3_isNoThing_26 : decode cX3_isNoThing 26 = .ok (.if_icmp .ne 23, 3) := by decide +kernel
theorem dX3_isNoThing_29 : decode cX3_isNoThing 29 = .ok (.iload_n 1, 1) := by decide +kernel
theorem dX3_isNoThing_30 : decode cX3_isNoThing 30 = .ok (.i2l, 1) := by decide +kernel
theorem dX3_isNoThing_31 : decode cX3_isNoThing 31 = .ok (.lconst 1, 1) := by decide +kernel
theorem dX3_isNoThing_32 : decode cX3_isNoThing 32 = .ok (.ldc2_w 36, 3) := by decide +kernel
theorem dX3_isNoThing_35 : decode cX3_isNoThing 35 = .ok (.invokestatic 30, 3) := by decide +kernel
theorem dX3_isNoThing_38 : decode cX3_isNoThing 38 = .ok (.ifCond .ne 7, 3) := by decide +kernel
theorem dX3_isNoThing_41 : decode cX3_isNoThing 41 = .ok (.iconst 1, 1) := by decide +kernel
theorem dX3_isNoThing_42 : decode cX3_isNoThing 42 = .ok (.goto 27, 3) := by decide +kernel
theorem dX3_isNoThing_45 : decode cX3_isNoThing 45 = .ok (.iconst 0, 1) := by decide +kernel
theorem dX3_isNoThing_46 : decode cX3_isNoThing 46 = .ok (.goto 23, 3) := by decide +kernel
theorem dX3_isNoThing_49 : decode cX3_isNoThing 49 = .ok (.iload_n 0, 1) := by decide +kernel
theorem dX3_isNoThing_50 : decode cX3_isNoThing 50 = .ok (.iconst 3, 1) := by decide +kernel
theorem dX3_isNoThing_51 : decode cX3_isNoThing 51 = .ok (.if_icmp .ne 17, 3) := by decide +kernel
theorem dX3_isNoThing_54 : decode cX3_isNoThing 54 = .ok (.iload_n 1, 1) := by decide +kernel
theorem dX3_isNoThing_55 : decode cX3_isNoThing 55 = .ok (.i2l, 1) := by decide +kernel
theorem dX3_isNoThing_56 : decode cX3_isNoThing 56 = .ok (.lconst 0, 1) := by decide +kernel
theorem dX3_isNoThing_57 : decode cX3_isNoThing 57 = .ok (.lconst 1, 1) := by decide +kernel
theorem dX3_isNoThing_58 : decode cX3_isNoThing 58 = .ok (.invokestatic 30, 3) := by decide +kernel
theorem dX3_isNoThing_61 : decode cX3_isNoThing 61 = .ok (.ifCond .ne 7, 3) := by decide +kernel
theorem dX3_isNoThing_64 : decode cX3_isNoThing 64 = .ok (.iconst 1, 1) := by decide +kernel
theorem dX3_isNoThing_65 : decode cX3_isNoThing 65 = .ok (.goto 4, 3) := by decide +kernel
theorem dX3_isNoThing_68 : decode cX3_isNoThing 68 = .ok (.iconst 0, 1) := by decide +kernel
theorem dX3_isNoThing_69 : decode cX3_isNoThing 69 = .ok (.ireturn, 1) := by decide +kernel
theorem dX3_leafWith_0 : decode cX3_leafWith 0 = .ok (.aload_n 0, 1) := by decide +kernel
theorem dX3_leafWith_1 : decode cX3_leafWith 1 = .ok (.iload_n 1, 1) := by decide +kernel
theorem dX3_leafWith_2 : decode cX3_leafWith 2 = .ok (.invokestatic 96, 3) := by decide +kernel
theorem dX3_leafWith_5 : decode cX3_leafWith 5 = .ok (.iload_n 2, 1) := by decide +kernel
theorem dX3_leafWith_6 : decode cX3_leafWith 6 = .ok (.i2l, 1) := by decide +kernel
theorem dX3_leafWith_7 : decode cX3_leafWith 7 = .ok (.lconst 0, 1) := by decide +kernel
theorem dX3_leafWith_8 : decode cX3_leafWith 8 = .ok (.ldc2_w 121, 3) := by decide +kernel
theorem dX3_leafWith_11 : decode cX3_leafWith 11 = .ok (.invokestatic 30, 3) := by decide +kernel
theorem dX3_leafWith_14 : decode cX3_leafWith 14 = .ok (.ifCond .eq 11, 3) := by decide +kernel
theorem dX3_leafWith_17 : decode cX3_leafWith 17 = .ok (.iload_n 2, 1) := by decide +kernel
theorem dX3_leafWith_18 : decode cX3_leafWith 18 = .ok (.iload_n 3, 1) := by decide +kernel
theorem dX3_leafWith_19 : decode cX3_leafWith 19 = .ok (.invokestatic 130, 3) := by decide +kernel
theorem dX3_leafWith_22 : decode cX3_leafWith 22 = .ok (.ifCond .eq 7, 3) := by decide +kernel
theorem dX3_leafWith_25 : decode cX3_leafWith 25 = .ok (.iconst 1, 1) := by decide +kernel
theorem dX3_leafWith_26 : decode cX3_leafWith 26 = .ok (.goto 4, 3) := by decide +kernel
theorem dX3_leafWith_29 : decode cX3_leafWith 29 = .ok (.iconst 0, 1) := by decide +kernel
theorem dX3_leafWith_30 : decode cX3_leafWith 30 = .ok (.invokevirtual 103, 3) := by decide +kernel
theorem dX3_leafWith_33 : decode cX3_leafWith 33 = .ok (.ifCond .eq 5, 3) := by decide +kernel
theorem dX3_leafWith_36 : decode cX3_leafWith 36 = .ok (.iconst 0, 1) := by decide +kernel
theorem dX3_leafWith_37 : decode cX3_leafWith 37 = .ok (.ireturn, 1) := by decide +kernel
theorem dX3_leafWith_38 : decode cX3_leafWith 38 = .ok (.aload_n 0, 1) := by decide +kernel
theorem dX3_leafWith_39 : decode cX3_leafWith 39 = .ok (.getfield 9, 3) := by decide +kernel
theorem dX3_leafWith_42 : decode cX3_leafWith 42 = .ok (.iload_n 1, 1) := by decide +kernel
theorem dX3_leafWith_43 : decode cX3_leafWith 43 = .ok (.aaload, 1) := by decide +kernel
theorem dX3_leafWith_44 : decode cX3_leafWith 44 = .ok (.astore 4, 2) := by decide +kernel
theorem dX3_leafWith_46 : decode cX3_leafWith 46 = .ok (.iload_n 2, 1) := by decide +kernel
theorem dX3_leafWith_47 : decode cX3_leafWith 47 = .ok (.ifCond .ne 14, 3) := by decide +kernel
theorem dX3_leafWith_50 : decode cX3_leafWith 50 = .ok (.aload_n 0, 1) := by decide +kernel
theorem dX3_leafWith_51 : decode cX3_leafWith 51 = .ok (.iload_n 1, 1) := by decide +kernel
theorem dX3_leafWith_52 : decode cX3_leafWith 52 = .ok (.aload 4, 2) := by decide +kernel
theorem dX3_leafWith_54 : decode cX3_leafWith 54 = .ok (.iconst 0, 1) := by decide +kernel
theorem dX3_leafWith_55 : decode cX3_leafWith 55 = .ok (.iaload, 1) := by decide +kernel
theorem dX3_leafWith_56 : decode cX3_leafWith 56 = .ok (.iload_n 3, 1) := by decide +kernel
theorem dX3_leafWith_57 : decode cX3_leafWith 57 = .ok (.invokevirtual 93, 3) := by decide +kernel
theorem dX3_leafWith_60 : decode cX3_leafWith 60 = .ok (.ireturn, 1) := by decide +kernel
theorem dX3_leafWith_61 : decode cX3_leafWith 61 = .ok (.iload_n 2, 1) := by decide +kernel
theorem dX3_leafWith_62 : decode cX3_leafWith 62 = .ok (.iconst 1, 1) := by decide +kernel
theorem dX3_leafWith_63 : decode cX3_leafWith 63 = .ok (.if_icmp .ne 14, 3) := by decide +kernel
theorem dX3_leafWith_66 : decode cX3_leafWith 66 = .ok (.aload_n 0, 1) := by decide +kernel
theorem dX3_leafWith_67 : decode cX3_leafWith 67 = .ok (.iload_n 1, 1) := by decide +kernel
theorem dX3_leafWith_68 : decode cX3_leafWith 68 = .ok (.iload_n 3, 1) := by decide +kernel
theorem dX3_leafWith_69 : decode cX3_leafWith 69 = .ok (.aload 4, 2) := by decide +kernel
theorem dX3_leafWith_71 : decode cX3_leafWith 71 = .ok (.iconst 1, 1) := by decide +kernel
theorem dX3_leafWith_72 : decode cX3_leafWith 72 = .ok (.iaload, 1) := by decide +kernel
theorem dX3_leafWith_73 : decode cX3_leafWith 73 = .ok (.invokevirtual 93, 3) := by decide +kernel
theorem dX3_leafWith_76 : decode cX3_leafWith 76 = .ok (.ireturn, 1) := by decide +kernel
theorem dX3_leafWith_77 : decode cX3_leafWith 77 = .ok (.iload_n 2, 1) := by decide +kernel
theorem dX3_leafWith_78 : decode cX3_leafWith 78 = .ok (.iconst 4, 1) := by decide +kernel
theorem dX3_leafWith_79 : decode cX3_leafWith 79 = .ok (.if_icmp .ne 11, 3) := by decide +kernel
theorem dX3_leafWith_82 : decode cX3_leafWith 82 = .ok (.aload_n 0, 1) := by decide +kernel
theorem dX3_leafWith_83 : decode cX3_leafWith 83 = .ok (.iload_n 1, 1) := by decide +kernel
theorem dX3_leafWith_84 : decode cX3_leafWith 84 = .ok (.iload_n 3, 1) := by decide +kernel
theorem dX3_leafWith_85 : decode cX3_leafWith 85 = .ok (.i2l, 1) := by decide +kernel
theorem dX3_leafWith_86 : decode cX3_leafWith 86 = .ok (.invokevirtual 117, 3) := by decide +kernel
theorem dX3_leafWith_89 : decode cX3_leafWith 89 = .ok (.ireturn, 1) := by decide +kernel
theorem dX3_leafWith_90 : decode cX3_leafWith 90 = .ok (.iload_n 2, 1) := by decide +kernel
theorem dX3_leafWith_91 : decode cX3_leafWith 91 = .ok (.iconst 2, 1) := by decide +kernel
theorem dX3_leafWith_92 : decode cX3_leafWith 92 = .ok (.if_icmp .ne 17, 3) := by decide +kernel
theorem dX3_leafWith_95 : decode cX3_leafWith 95 = .ok (.iload_n 3, 1) := by decide +kernel
theorem dX3_leafWith_96 : decode cX3_leafWith 96 = .ok (.aload 4, 2) := by decide +kernel
theorem dX3_leafWith_98 : decode cX3_leafWith 98 = .ok (.iconst 0, 1) := by decide +kernel
theorem dX3_leafWith_99 : decode cX3_leafWith 99 = .ok (.iaload, 1) := by decide +kernel
theorem dX3_leafWith_100 : decode cX3_leafWith 100 = .ok (.invokestatic 134, 3) := by decide +kernel
theorem dX3_leafWith_103 : decode cX3_leafWith 103 = .ok (.invokestatic 137, 3) := by decide +kernel
theorem dX3_leafWith_106 : decode cX3_leafWith 106 = .ok (.goto 14, 3) := by decide +kernel
theorem dX3_leafWith_109 : decode cX3_leafWith 109 = .ok (.aload 4, 2) := by decide +kernel
theorem dX3_leafWith_111 : decode cX3_leafWith 111 = .ok (.iconst 0, 1) := by decide +kernel
theorem dX3_leafWith_112 : decode cX3_leafWith 112 = .ok (.iaload, 1) := by decide +kernel
theorem dX3_leafWith_113 : decode cX3_leafWith 113 = .ok (.invokestatic 141, 3) := by decide +kernel
theorem dX3_leafWith_116 : decode cX3_leafWith 116 = .ok (.iload_n 3, 1) := by decide +kernel
theorem dX3_leafWith_117 : decode cX3_leafWith 117 = .ok (.invokestatic 137, 3) := by decide +kernel
theorem dX3_leafWith_120 : decode cX3_leafWith 120 = .ok (.lstore 5, 2) := by decide +kernel
theorem dX3_leafWith_122 : decode cX3_leafWith 122 = .ok (.lload 5, 2) := by decide +kernel
theorem dX3_leafWith_124 : decode cX3_leafWith 124 = .ok (.invokestatic 90, 3) := by decide +kernel
theorem dX3_leafWith_127 : decode cX3_leafWith 127 = .ok (.ifCond .eq 8, 3) := by decide +kernel
theorem dX3_leafWith_130 : decode cX3_leafWith 130 = .ok (.bipush (-9), 2) := by decide +kernel
theorem dX3_leafWith_132 : decode cX3_leafWith 132 = .ok (.goto 15, 3) := by decide +kernel
theorem dX3_leafWith_135 : decode cX3_leafWith 135 = .ok (.aload_n 0, 1) := by decide +kernel
theorem dX3_leafWith_136 : decode cX3_leafWith 136 = .ok (.iload_n 1, 1) := by decide +kernel
theorem dX3_leafWith_137 : decode cX3_leafWith 137 = .ok (.lload 5, 2) := by decide +kernel
theorem dX3_leafWith_139 : decode cX3_leafWith 139 = .ok (.l2i, 1) := by decide +kernel
theorem dX3_leafWith_140 : decode cX3_leafWith 140 = .ok (.aload 4, 2) := by decide +kernel
theorem dX3_leafWith_142 : decode cX3_leafWith 142 = .ok (.iconst 1, 1) := by decide +kernel
theorem dX3_leafWith_143 : decode cX3_leafWith 143 = .ok (.iaload, 1) := by decide +kernel
theorem dX3_leafWith_144 : decode cX3_leafWith 144 = .ok (.invokevirtual 93, 3) := by decide +kernel
theorem dX3_leafWith_147 : decode cX3_leafWith 147 = .ok (.ireturn, 1) := by decide +kernel
theorem dX3_leafOf_0 : decode cX3_leafOf 0 = .ok (.aload_n 0, 1) := by decide +kernel
theorem dX3_leafOf_1 : decode cX3_leafOf 1 = .ok (.iload_n 1, 1) := by decide +kernel
theorem dX3_leafOf_2 : decode cX3_leafOf 2 = .ok (.invokestatic 96, 3) := by decide +kernel
theorem dX3_leafOf_5 : decode cX3_leafOf 5 = .ok (.ifCond .ne 10, 3) := by decide +kernel
theorem dX3_leafOf_8 : decode cX3_leafOf 8 = .ok (.iload_n 2, 1) := by decide +kernel
theorem dX3_leafOf_9 : decode cX3_leafOf 9 = .ok (.invokestatic 96, 3) := by decide +kernel
theorem dX3_leafOf_12 : decode cX3_leafOf 12 = .ok (.ifCond .eq 7, 3) := by decide +kernel
theorem dX3_leafOf_15 : decode cX3_leafOf 15 = .ok (.iconst 1, 1) := by decide +kernel
theorem dX3_leafOf_16 : decode cX3_leafOf 16 = .ok (.goto 4, 3) := by decide +kernel
theorem dX3_leafOf_19 : decode cX3_leafOf 19 = .ok (.iconst 0, 1) := by decide +kernel
theorem dX3_leafOf_20 : decode cX3_leafOf 20 = .ok (.iload_n 3, 1) := by decide +kernel
theorem dX3_leafOf_21 : decode cX3_leafOf 21 = .ok (.invokestatic 100, 3) := by decide +kernel
theorem dX3_leafOf_24 : decode cX3_leafOf 24 = .ok (.invokevirtual 103, 3) := by decide +kernel
theorem dX3_leafOf_27 : decode cX3_leafOf 27 = .ok (.ifCond .eq 7, 3) := by decide +kernel
theorem dX3_leafOf_30 : decode cX3_leafOf 30 = .ok (.iconst 0, 1) := by decide +kernel
theorem dX3_leafOf_31 : decode cX3_leafOf 31 = .ok (.goto 15, 3) := by decide +kernel
theorem dX3_leafOf_34 : decode cX3_leafOf 34 = .ok (.aload_n 0, 1) := by decide +kernel
theorem dX3_leafOf_35 : decode cX3_leafOf 35 = .ok (.iload_n 1, 1) := by decide +kernel
theorem dX3_leafOf_36 : decode cX3_leafOf 36 = .ok (.aload_n 0, 1) := by decide +kernel
theorem dX3_leafOf_37 : decode cX3_leafOf 37 = .ok (.getfield 15, 3) := by decide +kernel
theorem dX3_leafOf_40 : decode cX3_leafOf 40 = .ok (.iload_n 2, 1) := by decide +kernel
theorem dX3_leafOf_41 : decode cX3_leafOf 41 = .ok (.iaload, 1) := by decide +kernel
theorem dX3_leafOf_42 : decode cX3_leafOf 42 = .ok (.iload_n 3, 1) := by decide +kernel
theorem dX3_leafOf_43 : decode cX3_leafOf 43 = .ok (.invokevirtual 93, 3) := by decide +kernel
theorem dX3_leafOf_46 : decode cX3_leafOf 46 = .ok (.ireturn, 1) := by decide +kernel
theorem dX3_leafOfRound_0 : decode cX3_leafOfRound 0 = .ok (.aload_n 0, 1) := by decide +kernel
theorem dX3_leafOfRound_1 : decode cX3_leafOfRound 1 = .ok (.iload_n 1, 1) := by decide +kernel
theorem dX3_leafOfRound_2 : decode cX3_leafOfRound 2 = .ok (.invokestatic 96, 3) := by decide +kernel
theorem dX3_leafOfRound_5 : decode cX3_leafOfRound 5 = .ok (.ifCond .ne 10, 3) := by decide +kernel
theorem dX3_leafOfRound_8 : decode cX3_leafOfRound 8 = .ok (.iload_n 2, 1) := by decide +kernel
theorem dX3_leafOfRound_9 : decode cX3_leafOfRound 9 = .ok (.invokestatic 96, 3) := by decide +kernel
theorem dX3_leafOfRound_12 : decode cX3_leafOfRound 12 = .ok (.ifCond .eq 7, 3) := by decide +kernel
theorem dX3_leafOfRound_15 : decode cX3_leafOfRound 15 = .ok (.iconst 1, 1) := by decide +kernel
theorem dX3_leafOfRound_16 : decode cX3_leafOfRound 16 = .ok (.goto 4, 3) := by decide +kernel
theorem dX3_leafOfRound_19 : decode cX3_leafOfRound 19 = .ok (.iconst 0, 1) := by decide +kernel
theorem dX3_leafOfRound_20 : decode cX3_leafOfRound 20 = .ok (.iconst 0, 1) := by decide +kernel
theorem dX3_leafOfRound_21 : decode cX3_leafOfRound 21 = .ok (.invokevirtual 103, 3) := by decide +kernel
theorem dX3_leafOfRound_24 : decode cX3_leafOfRound 24 = .ok (.ifCond .eq 5, 3) := by decide +kernel
theorem dX3_leafOfRound_27 : decode cX3_leafOfRound 27 = .ok (.iconst 0, 1) := by decide +kernel
theorem dX3_leafOfRound_28 : decode cX3_leafOfRound 28 = .ok (.ireturn, 1) := by decide +kernel
theorem dX3_leafOfRound_29 : decode cX3_leafOfRound 29 = .ok (.aload_n 0, 1) := by decide +kernel
theorem dX3_leafOfRound_30 : decode cX3_leafOfRound 30 = .ok (.iload_n 1, 1) := by decide +kernel
theorem dX3_leafOfRound_31 : decode cX3_leafOfRound 31 = .ok (.aload_n 0, 1) := by decide +kernel
theorem dX3_leafOfRound_32 : decode cX3_leafOfRound 32 = .ok (.getfield 15, 3) := by decide +kernel
theorem dX3_leafOfRound_35 : decode cX3_leafOfRound 35 = .ok (.iload_n 2, 1) := by decide +kernel
theorem dX3_leafOfRound_36 : decode cX3_leafOfRound 36 = .ok (.iaload, 1) := by decide +kernel
theorem dX3_leafOfRound_37 : decode cX3_leafOfRound 37 = .ok (.iload_n 3, 1) := by decide +kernel
theorem dX3_leafOfRound_38 : decode cX3_leafOfRound 38 = .ok (.invokestatic 107, 3) := by decide +kernel
theorem dX3_leafOfRound_41 : decode cX3_leafOfRound 41 = .ok (.invokevirtual 93, 3) := by decide +kernel
theorem dX3_leafOfRound_44 : decode cX3_leafOfRound 44 = .ok (.pop, 1) := by decide +kernel
theorem dX3_leafOfRound_45 : decode cX3_leafOfRound 45 = .ok (.iload_n 3, 1) := by decide +kernel
theorem dX3_leafOfRound_46 : decode cX3_leafOfRound 46 = .ok (.invokestatic 107, 3) := by decide +kernel
theorem dX3_leafOfRound_49 : decode cX3_leafOfRound 49 = .ok (.ireturn, 1) := by decide +kernel
theorem dX3_leafOfDay_0 : decode cX3_leafOfDay 0 = .ok (.aload_n 0, 1) := by decide +kernel
theorem dX3_leafOfDay_1 : decode cX3_leafOfDay 1 = .ok (.iload_n 1, 1) := by decide +kernel
theorem dX3_leafOfDay_2 : decode cX3_leafOfDay 2 = .ok (.invokestatic 96, 3) := by decide +kernel
theorem dX3_leafOfDay_5 : decode cX3_leafOfDay 5 = .ok (.ifCond .ne 10, 3) := by decide +kernel
theorem dX3_leafOfDay_8 : decode cX3_leafOfDay 8 = .ok (.iload_n 2, 1) := by decide +kernel
theorem dX3_leafOfDay_9 : decode cX3_leafOfDay 9 = .ok (.invokestatic 96, 3) := by decide +kernel
theorem dX3_leafOfDay_12 : decode cX3_leafOfDay 12 = .ok (.ifCond .eq 7, 3) := by decide +kernel
theorem dX3_leafOfDay_15 : decode cX3_leafOfDay 15 = .ok (.iconst 1, 1) := by decide +kernel
theorem dX3_leafOfDay_16 : decode cX3_leafOfDay 16 = .ok (.goto 4, 3) := by decide +kernel
theorem dX3_leafOfDay_19 : decode cX3_leafOfDay 19 = .ok (.iconst 0, 1) := by decide +kernel
theorem dX3_leafOfDay_20 : decode cX3_leafOfDay 20 = .ok (.iconst 0, 1) := by decide +kernel
theorem dX3_leafOfDay_21 : decode cX3_leafOfDay 21 = .ok (.invokevirtual 103, 3) := by decide +kernel
theorem dX3_leafOfDay_24 : decode cX3_leafOfDay 24 = .ok (.ifCond .eq 7, 3) := by decide +kernel
theorem dX3_leafOfDay_27 : decode cX3_leafOfDay 27 = .ok (.iconst 0, 1) := by decide +kernel
theorem dX3_leafOfDay_28 : decode cX3_leafOfDay 28 = .ok (.goto 24, 3) := by decide +kernel
theorem dX3_leafOfDay_31 : decode cX3_leafOfDay 31 = .ok (.aload_n 0, 1) := by decide +kernel
theorem dX3_leafOfDay_32 : decode cX3_leafOfDay 32 = .ok (.iload_n 1, 1) := by decide +kernel
theorem dX3_leafOfDay_33 : decode cX3_leafOfDay 33 = .ok (.aload_n 0, 1) := by decide +kernel
theorem dX3_leafOfDay_34 : decode cX3_leafOfDay 34 = .ok (.getfield 21, 3) := by decide +kernel
theorem dX3_leafOfDay_37 : decode cX3_leafOfDay 37 = .ok (.iload_n 2, 1) := by decide +kernel
theorem dX3_leafOfDay_38 : decode cX3_leafOfDay 38 = .ok (.aaload, 1) := by decide +kernel
theorem dX3_leafOfDay_39 : decode cX3_leafOfDay 39 = .ok (.iconst 0, 1) := by decide +kernel
theorem dX3_leafOfDay_40 : decode cX3_leafOfDay 40 = .ok (.iaload, 1) := by decide +kernel
theorem dX3_leafOfDay_41 : decode cX3_leafOfDay 41 = .ok (.aload_n 0, 1) := by decide +kernel
theorem dX3_leafOfDay_42 : decode cX3_leafOfDay 42 = .ok (.getfield 21, 3) := by decide +kernel
theorem dX3_leafOfDay_45 : decode cX3_leafOfDay 45 = .ok (.iload_n 2, 1) := by decide +kernel
theorem dX3_leafOfDay_46 : decode cX3_leafOfDay 46 = .ok (.aaload, 1) := by decide +kernel
theorem dX3_leafOfDay_47 : decode cX3_leafOfDay 47 = .ok (.iconst 1, 1) := by decide +kernel
theorem dX3_leafOfDay_48 : decode cX3_leafOfDay 48 = .ok (.iaload, 1) := by decide +kernel
theorem dX3_leafOfDay_49 : decode cX3_leafOfDay 49 = .ok (.invokevirtual 93, 3) := by decide +kernel
theorem dX3_leafOfDay_52 : decode cX3_leafOfDay 52 = .ok (.ireturn, 1) := by decide +kernel
theorem dX3_areSame_0 : decode cX3_areSame 0 = .ok (.aload_n 0, 1) := by decide +kernel
theorem dX3_areSame_1 : decode cX3_areSame 1 = .ok (.arraylength, 1) := by decide +kernel
theorem dX3_areSame_2 : decode cX3_areSame 2 = .ok (.aload_n 1, 1) := by decide +kernel
theorem dX3_areSame_3 : decode cX3_areSame 3 = .ok (.arraylength, 1) := by decide +kernel
theorem dX3_areSame_4 : decode cX3_areSame 4 = .ok (.if_icmp .ne 7, 3) := by decide +kernel
theorem dX3_areSame_7 : decode cX3_areSame 7 = .ok (.iconst 1, 1) := by decide +kernel
theorem dX3_areSame_8 : decode cX3_areSame 8 = .ok (.goto 4, 3) := by decide +kernel
theorem dX3_areSame_11 : decode cX3_areSame 11 = .ok (.iconst 0, 1) := by decide +kernel
theorem dX3_areSame_12 : decode cX3_areSame 12 = .ok (.istore_n 2, 1) := by decide +kernel
theorem dX3_areSame_13 : decode cX3_areSame 13 = .ok (.iconst 0, 1) := by decide +kernel
theorem dX3_areSame_14 : decode cX3_areSame 14 = .ok (.istore_n 3, 1) := by decide +kernel
theorem dX3_areSame_15 : decode cX3_areSame 15 = .ok (.iload_n 3, 1) := by decide +kernel
theorem dX3_areSame_16 : decode cX3_areSame 16 = .ok (.aload_n 0, 1) := by decide +kernel
theorem dX3_areSame_17 : decode cX3_areSame 17 = .ok (.arraylength, 1) := by decide +kernel
theorem dX3_areSame_18 : decode cX3_areSame 18 = .ok (.if_icmp .ge 28, 3) := by decide +kernel
theorem dX3_areSame_21 : decode cX3_areSame 21 = .ok (.iload_n 2, 1) := by decide +kernel
theorem dX3_areSame_22 : decode cX3_areSame 22 = .ok (.ifCond .eq 16, 3) := by decide +kernel
theorem dX3_areSame_25 : decode cX3_areSame 25 = .ok (.aload_n 0, 1) := by decide +kernel
theorem dX3_areSame_26 : decode cX3_areSame 26 = .ok (.iload_n 3, 1) := by decide +kernel
theorem dX3_areSame_27 : decode cX3_areSame 27 = .ok (.iaload, 1) := by decide +kernel
theorem dX3_areSame_28 : decode cX3_areSame 28 = .ok (.aload_n 1, 1) := by decide +kernel
theorem dX3_areSame_29 : decode cX3_areSame 29 = .ok (.iload_n 3, 1) := by decide +kernel
theorem dX3_areSame_30 : decode cX3_areSame 30 = .ok (.iaload, 1) := by decide +kernel
theorem dX3_areSame_31 : decode cX3_areSame 31 = .ok (.if_icmp .ne 7, 3) := by decide +kernel
theorem dX3_areSame_34 : decode cX3_areSame 34 = .ok (.iconst 1, 1) := by decide +kernel
theorem dX3_areSame_35 : decode cX3_areSame 35 = .ok (.goto 4, 3) := by decide +kernel
theorem dX3_areSame_38 : decode cX3_areSame 38 = .ok (.iconst 0, 1) := by decide +kernel
theorem dX3_areSame_39 : decode cX3_areSame 39 = .ok (.istore_n 2, 1) := by decide +kernel
theorem dX3_areSame_40 : decode cX3_areSame 40 = .ok (.iinc 3 1, 3) := by decide +kernel
theorem dX3_areSame_43 : decode cX3_areSame 43 = .ok (.goto (-28), 3) := by decide +kernel
theorem dX3_areSame_46 : decode cX3_areSame 46 = .ok (.iload_n 2, 1) := by decide +kernel
theorem dX3_areSame_47 : decode cX3_areSame 47 = .ok (.ireturn, 1) := by decide +kernel
theorem dX3_leafLike_0 : decode cX3_leafLike 0 = .ok (.aload_n 0, 1) := by decide +kernel
theorem dX3_leafLike_1 : decode cX3_leafLike 1 = .ok (.iload_n 1, 1) := by decide +kernel
theorem dX3_leafLike_2 : decode cX3_leafLike 2 = .ok (.invokestatic 96, 3) := by decide +kernel
theorem dX3_leafLike_5 : decode cX3_leafLike 5 = .ok (.ifCond .ne 10, 3) := by decide +kernel
theorem dX3_leafLike_8 : decode cX3_leafLike 8 = .ok (.iload_n 2, 1) := by decide +kernel
theorem dX3_leafLike_9 : decode cX3_leafLike 9 = .ok (.invokestatic 96, 3) := by decide +kernel
theorem dX3_leafLike_12 : decode cX3_leafLike 12 = .ok (.ifCond .eq 7, 3) := by decide +kernel
theorem dX3_leafLike_15 : decode cX3_leafLike 15 = .ok (.iconst 1, 1) := by decide +kernel
theorem dX3_leafLike_16 : decode cX3_leafLike 16 = .ok (.goto 4, 3) := by decide +kernel
theorem dX3_leafLike_19 : decode cX3_leafLike 19 = .ok (.iconst 0, 1) := by decide +kernel
theorem dX3_leafLike_20 : decode cX3_leafLike 20 = .ok (.iconst 0, 1) := by decide +kernel
theorem dX3_leafLike_21 : decode cX3_leafLike 21 = .ok (.invokevirtual 103, 3) := by decide +kernel
theorem dX3_leafLike_24 : decode cX3_leafLike 24 = .ok (.ifCond .eq 5, 3) := by decide +kernel
theorem dX3_leafLike_27 : decode cX3_leafLike 27 = .ok (.iconst 0, 1) := by decide +kernel
theorem dX3_leafLike_28 : decode cX3_leafLike 28 = .ok (.ireturn, 1) := by decide +kernel
theorem dX3_leafLike_29 : decode cX3_leafLike 29 = .ok (.aload_n 0, 1) := by decide +kernel
theorem dX3_leafLike_30 : decode cX3_leafLike 30 = .ok (.getfield 9, 3) := by decide +kernel
theorem dX3_leafLike_33 : decode cX3_leafLike 33 = .ok (.iload_n 1, 1) := by decide +kernel
theorem dX3_leafLike_34 : decode cX3_leafLike 34 = .ok (.aaload, 1) := by decide +kernel
theorem dX3_leafLike_35 : decode cX3_leafLike 35 = .ok (.aload_n 0, 1) := by decide +kernel
theorem dX3_leafLike_36 : decode cX3_leafLike 36 = .ok (.getfield 9, 3) := by decide +kernel
theorem dX3_leafLike_39 : decode cX3_leafLike 39 = .ok (.iload_n 2, 1) := by decide +kernel
theorem dX3_leafLike_40 : decode cX3_leafLike 40 = .ok (.aaload, 1) := by decide +kernel
theorem dX3_leafLike_41 : decode cX3_leafLike 41 = .ok (.invokestatic 144, 3) := by decide +kernel
theorem dX3_leafLike_44 : decode cX3_leafLike 44 = .ok (.istore_n 3, 1) := by decide +kernel
theorem dX3_leafLike_45 : decode cX3_leafLike 45 = .ok (.aload_n 0, 1) := by decide +kernel
theorem dX3_leafLike_46 : decode cX3_leafLike 46 = .ok (.iload_n 1, 1) := by decide +kernel
theorem dX3_leafLike_47 : decode cX3_leafLike 47 = .ok (.aload_n 0, 1) := by decide +kernel
theorem dX3_leafLike_48 : decode cX3_leafLike 48 = .ok (.getfield 9, 3) := by decide +kernel
theorem dX3_leafLike_51 : decode cX3_leafLike 51 = .ok (.iload_n 2, 1) := by decide +kernel
theorem dX3_leafLike_52 : decode cX3_leafLike 52 = .ok (.aaload, 1) := by decide +kernel
theorem dX3_leafLike_53 : decode cX3_leafLike 53 = .ok (.iconst 0, 1) := by decide +kernel
theorem dX3_leafLike_54 : decode cX3_leafLike 54 = .ok (.iaload, 1) := by decide +kernel
theorem dX3_leafLike_55 : decode cX3_leafLike 55 = .ok (.aload_n 0, 1) := by decide +kernel
theorem dX3_leafLike_56 : decode cX3_leafLike 56 = .ok (.getfield 9, 3) := by decide +kernel
theorem dX3_leafLike_59 : decode cX3_leafLike 59 = .ok (.iload_n 2, 1) := by decide +kernel
theorem dX3_leafLike_60 : decode cX3_leafLike 60 = .ok (.aaload, 1) := by decide +kernel
theorem dX3_leafLike_61 : decode cX3_leafLike 61 = .ok (.iconst 1, 1) := by decide +kernel
theorem dX3_leafLike_62 : decode cX3_leafLike 62 = .ok (.iaload, 1) := by decide +kernel
theorem dX3_leafLike_63 : decode cX3_leafLike 63 = .ok (.invokevirtual 93, 3) := by decide +kernel
theorem dX3_leafLike_66 : decode cX3_leafLike 66 = .ok (.pop, 1) := by decide +kernel
theorem dX3_leafLike_67 : decode cX3_leafLike 67 = .ok (.iload_n 3, 1) := by decide +kernel
theorem dX3_leafLike_68 : decode cX3_leafLike 68 = .ok (.invokestatic 78, 3) := by decide +kernel
theorem dX3_leafLike_71 : decode cX3_leafLike 71 = .ok (.ireturn, 1) := by decide +kernel
theorem dX3_putYear_0 : decode cX3_putYear 0 = .ok (.lload_n 2, 1) := by decide +kernel
theorem dX3_putYear_1 : decode cX3_putYear 1 = .ok (.invokestatic 90, 3) := by decide +kernel
theorem dX3_putYear_4 : decode cX3_putYear 4 = .ok (.ifCond .eq 6, 3) := by decide +kernel
theorem dX3_putYear_7 : decode cX3_putYear 7 = .ok (.bipush (-9), 2) := by decide +kernel
theorem dX3_putYear_9 : decode cX3_putYear 9 = .ok (.ireturn, 1) := by decide +kernel
theorem dX3_putYear_10 : decode cX3_putYear 10 = .ok (.aload_n 0, 1) := by decide +kernel
theorem dX3_putYear_11 : decode cX3_putYear 11 = .ok (.getfield 15, 3) := by decide +kernel
theorem dX3_putYear_14 : decode cX3_putYear 14 = .ok (.iload_n 1, 1) := by decide +kernel
theorem dX3_putYear_15 : decode cX3_putYear 15 = .ok (.lload_n 2, 1) := by decide +kernel
theorem dX3_putYear_16 : decode cX3_putYear 16 = .ok (.l2i, 1) := by decide +kernel
theorem dX3_putYear_17 : decode cX3_putYear 17 = .ok (.iastore, 1) := by decide +kernel
theorem dX3_putYear_18 : decode cX3_putYear 18 = .ok (.lload_n 2, 1) := by decide +kernel
theorem dX3_putYear_19 : decode cX3_putYear 19 = .ok (.invokestatic 148, 3) := by decide +kernel
theorem dX3_putYear_22 : decode cX3_putYear 22 = .ok (.ireturn, 1) := by decide +kernel
theorem dX3_year_0 : decode cX3_year 0 = .ok (.aload_n 0, 1) := by decide +kernel
theorem dX3_year_1 : decode cX3_year 1 = .ok (.iload_n 1, 1) := by decide +kernel
theorem dX3_year_2 : decode cX3_year 2 = .ok (.invokestatic 96, 3) := by decide +kernel
theorem dX3_year_5 : decode cX3_year 5 = .ok (.iload_n 2, 1) := by decide +kernel
theorem dX3_year_6 : decode cX3_year 6 = .ok (.i2l, 1) := by decide +kernel
theorem dX3_year_7 : decode cX3_year 7 = .ok (.invokestatic 90, 3) := by decide +kernel
theorem dX3_year_10 : decode cX3_year 10 = .ok (.invokevirtual 103, 3) := by decide +kernel
theorem dX3_year_13 : decode cX3_year 13 = .ok (.ifCond .eq 7, 3) := by decide +kernel
theorem dX3_year_16 : decode cX3_year 16 = .ok (.iconst 0, 1) := by decide +kernel
theorem dX3_year_17 : decode cX3_year 17 = .ok (.goto 10, 3) := by decide +kernel
theorem dX3_year_20 : decode cX3_year 20 = .ok (.aload_n 0, 1) := by decide +kernel
theorem dX3_year_21 : decode cX3_year 21 = .ok (.iload_n 1, 1) := by decide +kernel
theorem dX3_year_22 : decode cX3_year 22 = .ok (.iload_n 2, 1) := by decide +kernel
theorem dX3_year_23 : decode cX3_year 23 = .ok (.i2l, 1) := by decide +kernel
theorem dX3_year_24 : decode cX3_year 24 = .ok (.invokevirtual 152, 3) := by decide +kernel
theorem dX3_year_27 : decode cX3_year 27 = .ok (.ireturn, 1) := by decide +kernel
theorem dX3_later_0 : decode cX3_later 0 = .ok (.aload_n 0, 1) := by decide +kernel
theorem dX3_later_1 : decode cX3_later 1 = .ok (.iload_n 1, 1) := by decide +kernel
theorem dX3_later_2 : decode cX3_later 2 = .ok (.invokestatic 96, 3) := by decide +kernel
theorem dX3_later_5 : decode cX3_later 5 = .ok (.iconst 0, 1) := by decide +kernel
theorem dX3_later_6 : decode cX3_later 6 = .ok (.invokevirtual 103, 3) := by decide +kernel
theorem dX3_later_9 : decode cX3_later 9 = .ok (.ifCond .eq 7, 3) := by decide +kernel
theorem dX3_later_12 : decode cX3_later 12 = .ok (.iconst 0, 1) := by decide +kernel
theorem dX3_later_13 : decode cX3_later 13 = .ok (.goto 22, 3) := by decide +kernel
theorem dX3_later_16 : decode cX3_later 16 = .ok (.aload_n 0, 1) := by decide +kernel
theorem dX3_later_17 : decode cX3_later 17 = .ok (.iload_n 1, 1) := by decide +kernel
theorem dX3_later_18 : decode cX3_later 18 = .ok (.aload_n 0, 1) := by decide +kernel
theorem dX3_later_19 : decode cX3_later 19 = .ok (.getfield 15, 3) := by decide +kernel
theorem dX3_later_22 : decode cX3_later 22 = .ok (.iload_n 1, 1) := by decide +kernel
theorem dX3_later_23 : decode cX3_later 23 = .ok (.iaload, 1) := by decide +kernel
theorem dX3_later_24 : decode cX3_later 24 = .ok (.i2l, 1) := by decide +kernel
theorem dX3_later_25 : decode cX3_later 25 = .ok (.iload_n 2, 1) := by decide +kernel
theorem dX3_later_26 : decode cX3_later 26 = .ok (.i2l, 1) := by decide +kernel
theorem dX3_later_27 : decode cX3_later 27 = .ok (.iload_n 3, 1) := by decide +kernel
theorem dX3_later_28 : decode cX3_later 28 = .ok (.invokestatic 113, 3) := by decide +kernel
theorem dX3_later_31 : decode cX3_later 31 = .ok (.ladd, 1) := by decide +kernel
theorem dX3_later_32 : decode cX3_later 32 = .ok (.invokevirtual 152, 3) := by decide +kernel
theorem dX3_later_35 : decode cX3_later 35 = .ok (.ireturn, 1) := by decide +kernel
theorem dX3_yearUnits_0 : decode cX3_yearUnits 0 = .ok (.aload_n 0, 1) := by decide +kernel
theorem dX3_yearUnits_1 : decode cX3_yearUnits 1 = .ok (.iload_n 1, 1) := by decide +kernel
theorem dX3_yearUnits_2 : decode cX3_yearUnits 2 = .ok (.invokestatic 96, 3) := by decide +kernel
theorem dX3_yearUnits_5 : decode cX3_yearUnits 5 = .ok (.iload_n 2, 1) := by decide +kernel
theorem dX3_yearUnits_6 : decode cX3_yearUnits 6 = .ok (.i2l, 1) := by decide +kernel
theorem dX3_yearUnits_7 : decode cX3_yearUnits 7 = .ok (.lconst 1, 1) := by decide +kernel
theorem dX3_yearUnits_8 : decode cX3_yearUnits 8 = .ok (.ldc2_w 121, 3) := by decide +kernel
theorem dX3_yearUnits_11 : decode cX3_yearUnits 11 = .ok (.invokestatic 30, 3) := by decide +kernel
theorem dX3_yearUnits_14 : decode cX3_yearUnits 14 = .ok (.ifCond .ne 7, 3) := by decide +kernel
theorem dX3_yearUnits_17 : decode cX3_yearUnits 17 = .ok (.iconst 1, 1) := by decide +kernel
theorem dX3_yearUnits_18 : decode cX3_yearUnits 18 = .ok (.goto 4, 3) := by decide +kernel
theorem dX3_yearUnits_21 : decode cX3_yearUnits 21 = .ok (.iconst 0, 1) := by decide +kernel
theorem dX3_yearUnits_22 : decode cX3_yearUnits 22 = .ok (.invokevirtual 103, 3) := by decide +kernel
theorem dX3_yearUnits_25 : decode cX3_yearUnits 25 = .ok (.ifCond .eq 7, 3) := by decide +kernel
theorem dX3_yearUnits_28 : decode cX3_yearUnits 28 = .ok (.iconst 0, 1) := by decide +kernel
theorem dX3_yearUnits_29 : decode cX3_yearUnits 29 = .ok (.goto 33, 3) := by decide +kernel
theorem dX3_yearUnits_32 : decode cX3_yearUnits 32 = .ok (.aload_n 0, 1) := by decide +kernel
theorem dX3_yearUnits_33 : decode cX3_yearUnits 33 = .ok (.iload_n 1, 1) := by decide +kernel
theorem dX3_yearUnits_34 : decode cX3_yearUnits 34 = .ok (.aload_n 0, 1) := by decide +kernel
theorem dX3_yearUnits_35 : decode cX3_yearUnits 35 = .ok (.getfield 15, 3) := by decide +kernel
theorem dX3_yearUnits_38 : decode cX3_yearUnits 38 = .ok (.iload_n 1, 1) := by decide +kernel
theorem dX3_yearUnits_39 : decode cX3_yearUnits 39 = .ok (.iaload, 1) := by decide +kernel
theorem dX3_yearUnits_40 : decode cX3_yearUnits 40 = .ok (.i2l, 1) := by decide +kernel
theorem dX3_yearUnits_41 : decode cX3_yearUnits 41 = .ok (.getstatic 123, 3) := by decide +kernel
theorem dX3_yearUnits_44 : decode cX3_yearUnits 44 = .ok (.iload_n 2, 1) := by decide +kernel
theorem dX3_yearUnits_45 : decode cX3_yearUnits 45 = .ok (.iaload, 1) := by decide +kernel
theorem dX3_yearUnits_46 : decode cX3_yearUnits 46 = .ok (.bipush 12, 2) := by decide +kernel
theorem dX3_yearUnits_48 : decode cX3_yearUnits 48 = .ok (.idiv, 1) := by decide +kernel
theorem dX3_yearUnits_49 : decode cX3_yearUnits 49 = .ok (.i2l, 1) := by decide +kernel
theorem dX3_yearUnits_50 : decode cX3_yearUnits 50 = .ok (.iload_n 3, 1) := by decide +kernel
theorem dX3_yearUnits_51 : decode cX3_yearUnits 51 = .ok (.i2l, 1) := by decide +kernel
theorem dX3_yearUnits_52 : decode cX3_yearUnits 52 = .ok (.iload 4, 2) := by decide +kernel
theorem dX3_yearUnits_54 : decode cX3_yearUnits 54 = .ok (.invokestatic 113, 3) := by decide +kernel
theorem dX3_yearUnits_57 : decode cX3_yearUnits 57 = .ok (.lmul, 1) := by decide +kernel
theorem dX3_yearUnits_58 : decode cX3_yearUnits 58 = .ok (.ladd, 1) := by decide +kernel
theorem dX3_yearUnits_59 : decode cX3_yearUnits 59 = .ok (.invokevirtual 152, 3) := by decide +kernel
theorem dX3_yearUnits_62 : decode cX3_yearUnits 62 = .ok (.ireturn, 1) := by decide +kernel
theorem dX3_yearWith_0 : decode cX3_yearWith 0 = .ok (.aload_n 0, 1) := by decide +kernel
theorem dX3_yearWith_1 : decode cX3_yearWith 1 = .ok (.iload_n 1, 1) := by decide +kernel
theorem dX3_yearWith_2 : decode cX3_yearWith 2 = .ok (.invokestatic 96, 3) := by decide +kernel
theorem dX3_yearWith_5 : decode cX3_yearWith 5 = .ok (.iload_n 2, 1) := by decide +kernel
theorem dX3_yearWith_6 : decode cX3_yearWith 6 = .ok (.i2l, 1) := by decide +kernel
theorem dX3_yearWith_7 : decode cX3_yearWith 7 = .ok (.lconst 0, 1) := by decide +kernel
theorem dX3_yearWith_8 : decode cX3_yearWith 8 = .ok (.ldc2_w 155, 3) := by decide +kernel
theorem dX3_yearWith_11 : decode cX3_yearWith 11 = .ok (.invokestatic 30, 3) := by decide +kernel
theorem dX3_yearWith_14 : decode cX3_yearWith 14 = .ok (.ifCond .eq 13, 3) := by decide +kernel
theorem dX3_yearWith_17 : decode cX3_yearWith 17 = .ok (.iload_n 2, 1) := by decide +kernel
theorem dX3_yearWith_18 : decode cX3_yearWith 18 = .ok (.iconst 1, 1) := by decide +kernel
theorem dX3_yearWith_19 : decode cX3_yearWith 19 = .ok (.iadd, 1) := by decide +kernel
theorem dX3_yearWith_20 : decode cX3_yearWith 20 = .ok (.iload_n 3, 1) := by decide +kernel
theorem dX3_yearWith_21 : decode cX3_yearWith 21 = .ok (.invokestatic 130, 3) := by decide +kernel
theorem dX3_yearWith_24 : decode cX3_yearWith 24 = .ok (.ifCond .eq 7, 3) := by decide +kernel
theorem dX3_yearWith_27 : decode cX3_yearWith 27 = .ok (.iconst 1, 1) := by decide +kernel
theorem dX3_yearWith_28 : decode cX3_yearWith 28 = .ok (.goto 4, 3) := by decide +kernel
theorem dX3_yearWith_31 : decode cX3_yearWith 31 = .ok (.iconst 0, 1) := by decide +kernel
theorem dX3_yearWith_32 : decode cX3_yearWith 32 = .ok (.invokevirtual 103, 3) := by decide +kernel
theorem dX3_yearWith_35 : decode cX3_yearWith 35 = .ok (.ifCond .eq 5, 3) := by decide +kernel
theorem dX3_yearWith_38 : decode cX3_yearWith 38 = .ok (.iconst 0, 1) := by decide +kernel
theorem dX3_yearWith_39 : decode cX3_yearWith 39 = .ok (.ireturn, 1) := by decide +kernel
theorem dX3_yearWith_40 : decode cX3_yearWith 40 = .ok (.aload_n 0, 1) := by decide +kernel
theorem dX3_yearWith_41 : decode cX3_yearWith 41 = .ok (.iload_n 1, 1) := by decide +kernel
theorem dX3_yearWith_42 : decode cX3_yearWith 42 = .ok (.iload_n 2, 1) := by decide +kernel
theorem dX3_yearWith_43 : decode cX3_yearWith 43 = .ok (.ifCond .ne 8, 3) := by decide +kernel
theorem dX3_yearWith_46 : decode cX3_yearWith 46 = .ok (.iload_n 3, 1) := by decide +kernel
theorem dX3_yearWith_47 : decode cX3_yearWith 47 = .ok (.i2l, 1) := by decide +kernel
theorem dX3_yearWith_48 : decode cX3_yearWith 48 = .ok (.goto 37, 3) := by decide +kernel
theorem dX3_yearWith_51 : decode cX3_yearWith 51 = .ok (.iload_n 2, 1) := by decide +kernel
theorem dX3_yearWith_52 : decode cX3_yearWith 52 = .ok (.iconst 1, 1) := by decide +kernel
theorem dX3_yearWith_53 : decode cX3_yearWith 53 = .ok (.if_icmp .ne 19, 3) := by decide +kernel
theorem dX3_yearWith_56 : decode cX3_yearWith 56 = .ok (.iload_n 3, 1) := by decide +kernel
theorem dX3_yearWith_57 : decode cX3_yearWith 57 = .ok (.aload_n 0, 1) := by decide +kernel
theorem dX3_yearWith_58 : decode cX3_yearWith 58 = .ok (.getfield 15, 3) := by decide +kernel
theorem dX3_yearWith_61 : decode cX3_yearWith 61 = .ok (.iload_n 1, 1) := by decide +kernel
theorem dX3_yearWith_62 : decode cX3_yearWith 62 = .ok (.iaload, 1) := by decide +kernel
theorem dX3_yearWith_63 : decode cX3_yearWith 63 = .ok (.invokestatic 134, 3) := by decide +kernel
theorem dX3_yearWith_66 : decode cX3_yearWith 66 = .ok (.invokestatic 137, 3) := by decide +kernel
theorem dX3_yearWith_69 : decode cX3_yearWith 69 = .ok (.goto 16, 3) := by decide +kernel
theorem dX3_yearWith_72 : decode cX3_yearWith 72 = .ok (.aload_n 0, 1) := by decide +kernel
theorem dX3_yearWith_73 : decode cX3_yearWith 73 = .ok (.getfield 15, 3) := by decide +kernel
theorem dX3_yearWith_76 : decode cX3_yearWith 76 = .ok (.iload_n 1, 1) := by decide +kernel
theorem dX3_yearWith_77 : decode cX3_yearWith 77 = .ok (.iaload, 1) := by decide +kernel
theorem dX3_yearWith_78 : decode cX3_yearWith 78 = .ok (.invokestatic 141, 3) := by decide +kernel
theorem dX3_yearWith_81 : decode cX3_yearWith 81 = .ok (.iload_n 3, 1) := by decide +kernel
theorem dX3_yearWith_82 : decode cX3_yearWith 82 = .ok (.invokestatic 137, 3) := by decide +kernel
theorem dX3_yearWith_85 : decode cX3_yearWith 85 = .ok (.invokevirtual 152, 3) := by decide +kernel
theorem dX3_yearWith_88 : decode cX3_yearWith 88 = .ok (.ireturn, 1) := by decide +kernel
theorem dX3_yearOf_0 : decode cX3_yearOf 0 = .ok (.aload_n 0, 1) := by decide +kernel
theorem dX3_yearOf_1 : decode cX3_yearOf 1 = .ok (.iload_n 1, 1) := by decide +kernel
theorem dX3_yearOf_2 : decode cX3_yearOf 2 = .ok (.invokestatic 96, 3) := by decide +kernel
theorem dX3_yearOf_5 : decode cX3_yearOf 5 = .ok (.ifCond .ne 10, 3) := by decide +kernel
theorem dX3_yearOf_8 : decode cX3_yearOf 8 = .ok (.iload_n 3, 1) := by decide +kernel
theorem dX3_yearOf_9 : decode cX3_yearOf 9 = .ok (.invokestatic 96, 3) := by decide +kernel
theorem dX3_yearOf_12 : decode cX3_yearOf 12 = .ok (.ifCond .eq 7, 3) := by decide +kernel
theorem dX3_yearOf_15 : decode cX3_yearOf 15 = .ok (.iconst 1, 1) := by decide +kernel
theorem dX3_yearOf_16 : decode cX3_yearOf 16 = .ok (.goto 4, 3) := by decide +kernel
theorem dX3_yearOf_19 : decode cX3_yearOf 19 = .ok (.iconst 0, 1) := by decide +kernel
theorem dX3_yearOf_20 : decode cX3_yearOf 20 = .ok (.iconst 0, 1) := by decide +kernel
theorem dX3_yearOf_21 : decode cX3_yearOf 21 = .ok (.invokevirtual 103, 3) := by decide +kernel
theorem dX3_yearOf_24 : decode cX3_yearOf 24 = .ok (.ifCond .eq 7, 3) := by decide +kernel
theorem dX3_yearOf_27 : decode cX3_yearOf 27 = .ok (.iconst 0, 1) := by decide +kernel
theorem dX3_yearOf_28 : decode cX3_yearOf 28 = .ok (.goto 33, 3) := by decide +kernel
theorem dX3_yearOf_31 : decode cX3_yearOf 31 = .ok (.aload_n 0, 1) := by decide +kernel
theorem dX3_yearOf_32 : decode cX3_yearOf 32 = .ok (.iload_n 1, 1) := by decide +kernel
theorem dX3_yearOf_33 : decode cX3_yearOf 33 = .ok (.iload_n 2, 1) := by decide +kernel
theorem dX3_yearOf_34 : decode cX3_yearOf 34 = .ok (.ifCond .eq 15, 3) := by decide +kernel
theorem dX3_yearOf_37 : decode cX3_yearOf 37 = .ok (.aload_n 0, 1) := by decide +kernel
theorem dX3_yearOf_38 : decode cX3_yearOf 38 = .ok (.getfield 21, 3) := by decide +kernel
theorem dX3_yearOf_41 : decode cX3_yearOf 41 = .ok (.iload_n 3, 1) := by decide +kernel
theorem dX3_yearOf_42 : decode cX3_yearOf 42 = .ok (.aaload, 1) := by decide +kernel
theorem dX3_yearOf_43 : decode cX3_yearOf 43 = .ok (.iconst 0, 1) := by decide +kernel
theorem dX3_yearOf_44 : decode cX3_yearOf 44 = .ok (.iaload, 1) := by decide +kernel
theorem dX3_yearOf_45 : decode cX3_yearOf 45 = .ok (.i2l, 1) := by decide +kernel
theorem dX3_yearOf_46 : decode cX3_yearOf 46 = .ok (.goto 12, 3) := by decide +kernel
theorem dX3_yearOf_49 : decode cX3_yearOf 49 = .ok (.aload_n 0, 1) := by decide +kernel
theorem dX3_yearOf_50 : decode cX3_yearOf 50 = .ok (.getfield 9, 3) := by decide +kernel
theorem dX3_yearOf_53 : decode cX3_yearOf 53 = .ok (.iload_n 3, 1) := by decide +kernel
theorem dX3_yearOf_54 : decode cX3_yearOf 54 = .ok (.aaload, 1) := by decide +kernel
theorem dX3_yearOf_55 : decode cX3_yearOf 55 = .ok (.iconst 0, 1) := by decide +kernel
theorem dX3_yearOf_56 : decode cX3_yearOf 56 = .ok (.iaload, 1) := by decide +kernel
theorem dX3_yearOf_57 : decode cX3_yearOf 57 = .ok (.i2l, 1) := by decide +kernel
theorem dX3_yearOf_58 : decode cX3_yearOf 58 = .ok (.invokevirtual 152, 3) := by decide +kernel
theorem dX3_yearOf_61 : decode cX3_yearOf 61 = .ok (.ireturn, 1) := by decide +kernel
theorem dX3_yearLike_0 : decode cX3_yearLike 0 = .ok (.aload_n 0, 1) := by decide +kernel
theorem dX3_yearLike_1 : decode cX3_yearLike 1 = .ok (.iload_n 1, 1) := by decide +kernel
theorem dX3_yearLike_2 : decode cX3_yearLike 2 = .ok (.invokestatic 96, 3) := by decide +kernel
theorem dX3_yearLike_5 : decode cX3_yearLike 5 = .ok (.ifCond .ne 10, 3) := by decide +kernel
theorem dX3_yearLike_8 : decode cX3_yearLike 8 = .ok (.iload_n 2, 1) := by decide +kernel
theorem dX3_yearLike_9 : decode cX3_yearLike 9 = .ok (.invokestatic 96, 3) := by decide +kernel
theorem dX3_yearLike_12 : decode cX3_yearLike 12 = .ok (.ifCond .eq 7, 3) := by decide +kernel
theorem dX3_yearLike_15 : decode cX3_yearLike 15 = .ok (.iconst 1, 1) := by decide +kernel
theorem dX3_yearLike_16 : decode cX3_yearLike 16 = .ok (.goto 4, 3) := by decide +kernel
theorem dX3_yearLike_19 : decode cX3_yearLike 19 = .ok (.iconst 0, 1) := by decide +kernel
theorem dX3_yearLike_20 : decode cX3_yearLike 20 = .ok (.iconst 0, 1) := by decide +kernel
theorem dX3_yearLike_21 : decode cX3_yearLike 21 = .ok (.invokevirtual 103, 3) := by decide +kernel
theorem dX3_yearLike_24 : decode cX3_yearLike 24 = .ok (.ifCond .eq 5, 3) := by decide +kernel
theorem dX3_yearLike_27 : decode cX3_yearLike 27 = .ok (.iconst 0, 1) := by decide +kernel
theorem dX3_yearLike_28 : decode cX3_yearLike 28 = .ok (.ireturn, 1) := by decide +kernel
theorem dX3_yearLike_29 : decode cX3_yearLike 29 = .ok (.aload_n 0, 1) := by decide +kernel
theorem dX3_yearLike_30 : decode cX3_yearLike 30 = .ok (.getfield 15, 3) := by decide +kernel
theorem dX3_yearLike_33 : decode cX3_yearLike 33 = .ok (.iload_n 1, 1) := by decide +kernel
theorem dX3_yearLike_34 : decode cX3_yearLike 34 = .ok (.iaload, 1) := by decide +kernel
theorem dX3_yearLike_35 : decode cX3_yearLike 35 = .ok (.aload_n 0, 1) := by decide +kernel
theorem dX3_yearLike_36 : decode cX3_yearLike 36 = .ok (.getfield 15, 3) := by decide +kernel
theorem dX3_yearLike_39 : decode cX3_yearLike 39 = .ok (.iload_n 2, 1) := by decide +kernel
theorem dX3_yearLike_40 : decode cX3_yearLike 40 = .ok (.iaload, 1) := by decide +kernel
theorem dX3_yearLike_41 : decode cX3_yearLike 41 = .ok (.if_icmp .ne 7, 3) := by decide +kernel
theorem dX3_yearLike_44 : decode cX3_yearLike 44 = .ok (.iconst 1, 1) := by decide +kernel
theorem dX3_yearLike_45 : decode cX3_yearLike 45 = .ok (.goto 4, 3) := by decide +kernel
theorem dX3_yearLike_48 : decode cX3_yearLike 48 = .ok (.iconst 0, 1) := by decide +kernel
theorem dX3_yearLike_49 : decode cX3_yearLike 49 = .ok (.istore_n 3, 1) := by decide +kernel
theorem dX3_yearLike_50 : decode cX3_yearLike 50 = .ok (.aload_n 0, 1) := by decide +kernel
theorem dX3_yearLike_51 : decode cX3_yearLike 51 = .ok (.getfield 15, 3) := by decide +kernel
theorem dX3_yearLike_54 : decode cX3_yearLike 54 = .ok (.iload_n 1, 1) := by decide +kernel
theorem dX3_yearLike_55 : decode cX3_yearLike 55 = .ok (.aload_n 0, 1) := by decide +kernel
theorem dX3_yearLike_56 : decode cX3_yearLike 56 = .ok (.getfield 15, 3) := by decide +kernel
theorem dX3_yearLike_59 : decode cX3_yearLike 59 = .ok (.iload_n 2, 1) := by decide +kernel
theorem dX3_yearLike_60 : decode cX3_yearLike 60 = .ok (.iaload, 1) := by decide +kernel
theorem dX3_yearLike_61 : decode cX3_yearLike 61 = .ok (.iastore, 1) := by decide +kernel
theorem dX3_yearLike_62 : decode cX3_yearLike 62 = .ok (.iload_n 3, 1) := by decide +kernel
theorem dX3_yearLike_63 : decode cX3_yearLike 63 = .ok (.invokestatic 78, 3) := by decide +kernel
theorem dX3_yearLike_66 : decode cX3_yearLike 66 = .ok (.ireturn, 1) := by decide +kernel
theorem dX3_isPutFeast_0 : decode cX3_isPutFeast 0 = .ok (.iload_n 3, 1) := by decide +kernel
theorem dX3_isPutFeast_1 : decode cX3_isPutFeast 1 = .ok (.lconst 0, 1) := by decide +kernel
theorem dX3_isPutFeast_2 : decode cX3_isPutFeast 2 = .ok (.iload_n 2, 1) := by decide +kernel
theorem dX3_isPutFeast_3 : decode cX3_isPutFeast 3 = .ok (.invokestatic 55, 3) := by decide +kernel
theorem dX3_isPutFeast_6 : decode cX3_isPutFeast 6 = .ok (.if_icmp .le 5, 3) := by decide +kernel
theorem dX3_isPutFeast_9 : decode cX3_isPutFeast 9 = .ok (.iconst 0, 1) := by decide +kernel
theorem dX3_isPutFeast_10 : decode cX3_isPutFeast 10 = .ok (.ireturn, 1) := by decide +kernel
theorem dX3_isPutFeast_11 : decode cX3_isPutFeast 11 = .ok (.aload_n 0, 1) := by decide +kernel
theorem dX3_isPutFeast_12 : decode cX3_isPutFeast 12 = .ok (.getfield 18, 3) := by decide +kernel
theorem dX3_isPutFeast_15 : decode cX3_isPutFeast 15 = .ok (.iload_n 1, 1) := by decide +kernel
theorem dX3_isPutFeast_16 : decode cX3_isPutFeast 16 = .ok (.iconst 2, 1) := by decide +kernel
theorem dX3_isPutFeast_17 : decode cX3_isPutFeast 17 = .ok (.newarray .int, 2) := by decide +kernel
theorem dX3_isPutFeast_19 : decode cX3_isPutFeast 19 = .ok (.dup, 1) := by decide +kernel
theorem dX3_isPutFeast_20 : decode cX3_isPutFeast 20 = .ok (.iconst 0, 1) := by decide +kernel
theorem dX3_isPutFeast_21 : decode cX3_isPutFeast 21 = .ok (.iload_n 2, 1) := by decide +kernel
theorem dX3_isPutFeast_22 : decode cX3_isPutFeast 22 = .ok (.iastore, 1) := by decide +kernel
theorem dX3_isPutFeast_23 : decode cX3_isPutFeast 23 = .ok (.dup, 1) := by decide +kernel
theorem dX3_isPutFeast_24 : decode cX3_isPutFeast 24 = .ok (.iconst 1, 1) := by decide +kernel
theorem dX3_isPutFeast_25 : decode cX3_isPutFeast 25 = .ok (.iload_n 3, 1) := by decide +kernel
theorem dX3_isPutFeast_26 : decode cX3_isPutFeast 26 = .ok (.iastore, 1) := by decide +kernel
theorem dX3_isPutFeast_27 : decode cX3_isPutFeast 27 = .ok (.aastore, 1) := by decide +kernel
theorem dX3_isPutFeast_28 : decode cX3_isPutFeast 28 = .ok (.iconst 1, 1) := by decide +kernel
theorem dX3_isPutFeast_29 : decode cX3_isPutFeast 29 = .ok (.ireturn, 1) := by decide +kernel
theorem dX3_feast_0 : decode cX3_feast 0 = .ok (.aload_n 0, 1) := by decide +kernel
theorem dX3_feast_1 : decode cX3_feast 1 = .ok (.iload_n 1, 1) := by decide +kernel
theorem dX3_feast_2 : decode cX3_feast 2 = .ok (.invokestatic 96, 3) := by decide +kernel
theorem dX3_feast_5 : decode cX3_feast 5 = .ok (.iload_n 2, 1) := by decide +kernel
theorem dX3_feast_6 : decode cX3_feast 6 = .ok (.invokestatic 100, 3) := by decide +kernel
theorem dX3_feast_9 : decode cX3_feast 9 = .ok (.ifCond .ne 15, 3) := by decide +kernel
theorem dX3_feast_12 : decode cX3_feast 12 = .ok (.iload_n 3, 1) := by decide +kernel
theorem dX3_feast_13 : decode cX3_feast 13 = .ok (.i2l, 1) := by decide +kernel
theorem dX3_feast_14 : decode cX3_feast 14 = .ok (.lconst 1, 1) := by decide +kernel
theorem dX3_feast_15 : decode cX3_feast 15 = .ok (.ldc2_w 157, 3) := by decide +kernel
theorem dX3_feast_18 : decode cX3_feast 18 = .ok (.invokestatic 30, 3) := by decide +kernel
theorem dX3_feast_21 : decode cX3_feast 21 = .ok (.ifCond .ne 7, 3) := by decide +kernel
theorem dX3_feast_24 : decode cX3_feast 24 = .ok (.iconst 1, 1) := by decide +kernel
theorem dX3_feast_25 : decode cX3_feast 25 = .ok (.goto 4, 3) := by decide +kernel
theorem dX3_feast_28 : decode cX3_feast 28 = .ok (.iconst 0, 1) := by decide +kernel
theorem dX3_feast_29 : decode cX3_feast 29 = .ok (.invokevirtual 103, 3) := by decide +kernel
theorem dX3_feast_32 : decode cX3_feast 32 = .ok (.ifCond .eq 5, 3) := by decide +kernel
theorem dX3_feast_35 : decode cX3_feast 35 = .ok (.iconst 0, 1) := by decide +kernel
theorem dX3_feast_36 : decode cX3_feast 36 = .ok (.ireturn, 1) := by decide +kernel
theorem dX3_feast_37 : decode cX3_feast 37 = .ok (.aload_n 0, 1) := by decide +kernel
theorem dX3_feast_38 : decode cX3_feast 38 = .ok (.iload_n 1, 1) := by decide +kernel
theorem dX3_feast_39 : decode cX3_feast 39 = .ok (.iload_n 2, 1) := by decide +kernel
theorem dX3_feast_40 : decode cX3_feast 40 = .ok (.iload_n 3, 1) := by decide +kernel
theorem dX3_feast_41 : decode cX3_feast 41 = .ok (.invokevirtual 159, 3) := by decide +kernel
theorem dX3_feast_44 : decode cX3_feast 44 = .ok (.ifCond .eq 18, 3) := by decide +kernel
theorem dX3_feast_47 : decode cX3_feast 47 = .ok (.aload_n 0, 1) := by decide +kernel
theorem dX3_feast_48 : decode cX3_feast 48 = .ok (.getfield 18, 3) := by decide +kernel
theorem dX3_feast_51 : decode cX3_feast 51 = .ok (.iload_n 1, 1) := by decide +kernel
theorem dX3_feast_52 : decode cX3_feast 52 = .ok (.aaload, 1) := by decide +kernel
theorem dX3_feast_53 : decode cX3_feast 53 = .ok (.invokestatic 163, 3) := by decide +kernel
theorem dX3_feast_56 : decode cX3_feast 56 = .ok (.invokestatic 78, 3) := by decide +kernel
theorem dX3_feast_59 : decode cX3_feast 59 = .ok (.goto 5, 3) := by decide +kernel
theorem dX3_feast_62 : decode cX3_feast 62 = .ok (.bipush (-9), 2) := by decide +kernel
theorem dX3_feast_64 : decode cX3_feast 64 = .ok (.ireturn, 1) := by decide +kernel
theorem dX3_feastRound_0 : decode cX3_feastRound 0 = .ok (.aload_n 0, 1) := by decide +kernel
theorem dX3_feastRound_1 : decode cX3_feastRound 1 = .ok (.iload_n 1, 1) := by decide +kernel
theorem dX3_feastRound_2 : decode cX3_feastRound 2 = .ok (.invokestatic 96, 3) := by decide +kernel
theorem dX3_feastRound_5 : decode cX3_feastRound 5 = .ok (.iload_n 3, 1) := by decide +kernel
theorem dX3_feastRound_6 : decode cX3_feastRound 6 = .ok (.i2l, 1) := by decide +kernel
theorem dX3_feastRound_7 : decode cX3_feastRound 7 = .ok (.lconst 1, 1) := by decide +kernel
theorem dX3_feastRound_8 : decode cX3_feastRound 8 = .ok (.ldc2_w 157, 3) := by decide +kernel
theorem dX3_feastRound_11 : decode cX3_feastRound 11 = .ok (.invokestatic 30, 3) := by decide +kernel
theorem dX3_feastRound_14 : decode cX3_feastRound 14 = .ok (.ifCond .ne 7, 3) := by decide +kernel
theorem dX3_feastRound_17 : decode cX3_feastRound 17 = .ok (.iconst 1, 1) := by decide +kernel
theorem dX3_feastRound_18 : decode cX3_feastRound 18 = .ok (.goto 4, 3) := by decide +kernel
theorem dX3_feastRound_21 : decode cX3_feastRound 21 = .ok (.iconst 0, 1) := by decide +kernel
theorem dX3_feastRound_22 : decode cX3_feastRound 22 = .ok (.invokevirtual 103, 3) := by decide +kernel
theorem dX3_feastRound_25 : decode cX3_feastRound 25 = .ok (.ifCond .eq 5, 3) := by decide +kernel
theorem dX3_feastRound_28 : decode cX3_feastRound 28 = .ok (.iconst 0, 1) := by decide +kernel
theorem dX3_feastRound_29 : decode cX3_feastRound 29 = .ok (.ireturn, 1) := by decide +kernel
theorem dX3_feastRound_30 : decode cX3_feastRound 30 = .ok (.aload_n 0, 1) := by decide +kernel
theorem dX3_feastRound_31 : decode cX3_feastRound 31 = .ok (.iload_n 1, 1) := by decide +kernel
theorem dX3_feastRound_32 : decode cX3_feastRound 32 = .ok (.iload_n 2, 1) := by decide +kernel
theorem dX3_feastRound_33 : decode cX3_feastRound 33 = .ok (.invokestatic 107, 3) := by decide +kernel
theorem dX3_feastRound_36 : decode cX3_feastRound 36 = .ok (.iload_n 3, 1) := by decide +kernel
theorem dX3_feastRound_37 : decode cX3_feastRound 37 = .ok (.invokevirtual 159, 3) := by decide +kernel
theorem dX3_feastRound_40 : decode cX3_feastRound 40 = .ok (.ifCond .eq 10, 3) := by decide +kernel
theorem dX3_feastRound_43 : decode cX3_feastRound 43 = .ok (.iload_n 2, 1) := by decide +kernel
theorem dX3_feastRound_44 : decode cX3_feastRound 44 = .ok (.invokestatic 107, 3) := by decide +kernel
theorem dX3_feastRound_47 : decode cX3_feastRound 47 = .ok (.goto 5, 3) := by decide +kernel
theorem dX3_feastRound_50 : decode cX3_feastRound 50 = .ok (.bipush (-9), 2) := by decide +kernel
theorem dX3_feastRound_52 : decode cX3_feastRound 52 = .ok (.ireturn, 1) := by decide +kernel
theorem dX3_feastMonth_0 : decode cX3_feastMonth 0 = .ok (.aload_n 0, 1) := by decide +kernel
theorem dX3_feastMonth_1 : decode cX3_feastMonth 1 = .ok (.iload_n 1, 1) := by decide +kernel
theorem dX3_feastMonth_2 : decode cX3_feastMonth 2 = .ok (.invokestatic 96, 3) := by decide +kernel
theorem dX3_feastMonth_5 : decode cX3_feastMonth 5 = .ok (.iload_n 2, 1) := by decide +kernel
theorem dX3_feastMonth_6 : decode cX3_feastMonth 6 = .ok (.invokestatic 100, 3) := by decide +kernel
theorem dX3_feastMonth_9 : decode cX3_feastMonth 9 = .ok (.invokevirtual 103, 3) := by decide +kernel
theorem dX3_feastMonth_12 : decode cX3_feastMonth 12 = .ok (.ifCond .eq 5, 3) := by decide +kernel
theorem dX3_feastMonth_15 : decode cX3_feastMonth 15 = .ok (.iconst 0, 1) := by decide +kernel
theorem dX3_feastMonth_16 : decode cX3_feastMonth 16 = .ok (.ireturn, 1) := by decide +kernel
theorem dX3_feastMonth_17 : decode cX3_feastMonth 17 = .ok (.aload_n 0, 1) := by decide +kernel
theorem dX3_feastMonth_18 : decode cX3_feastMonth 18 = .ok (.iload_n 1, 1) := by decide +kernel
theorem dX3_feastMonth_19 : decode cX3_feastMonth 19 = .ok (.iload_n 2, 1) := by decide +kernel
theorem dX3_feastMonth_20 : decode cX3_feastMonth 20 = .ok (.aload_n 0, 1) := by decide +kernel
theorem dX3_feastMonth_21 : decode cX3_feastMonth 21 = .ok (.getfield 18, 3) := by decide +kernel
theorem dX3_feastMonth_24 : decode cX3_feastMonth 24 = .ok (.iload_n 1, 1) := by decide +kernel
theorem dX3_feastMonth_25 : decode cX3_feastMonth 25 = .ok (.aaload, 1) := by decide +kernel
theorem dX3_feastMonth_26 : decode cX3_feastMonth 26 = .ok (.iconst 1, 1) := by decide +kernel
theorem dX3_feastMonth_27 : decode cX3_feastMonth 27 = .ok (.iaload, 1) := by decide +kernel
theorem dX3_feastMonth_28 : decode cX3_feastMonth 28 = .ok (.lconst 0, 1) := by decide +kernel
theorem dX3_feastMonth_29 : decode cX3_feastMonth 29 = .ok (.iload_n 2, 1) := by decide +kernel
theorem dX3_feastMonth_30 : decode cX3_feastMonth 30 = .ok (.invokestatic 55, 3) := by decide +kernel
theorem dX3_feastMonth_33 : decode cX3_feastMonth 33 = .ok (.invokestatic 167, 3) := by decide +kernel
theorem dX3_feastMonth_36 : decode cX3_feastMonth 36 = .ok (.invokevirtual 159, 3) := by decide +kernel
theorem dX3_feastMonth_39 : decode cX3_feastMonth 39 = .ok (.pop, 1) := by decide +kernel
theorem dX3_feastMonth_40 : decode cX3_feastMonth 40 = .ok (.aload_n 0, 1) := by decide +kernel
theorem dX3_feastMonth_41 : decode cX3_feastMonth 41 = .ok (.getfield 18, 3) := by decide +kernel
theorem dX3_feastMonth_44 : decode cX3_feastMonth 44 = .ok (.iload_n 1, 1) := by decide +kernel
theorem dX3_feastMonth_45 : decode cX3_feastMonth 45 = .ok (.aaload, 1) := by decide +kernel
theorem dX3_feastMonth_46 : decode cX3_feastMonth 46 = .ok (.iconst 1, 1) := by decide +kernel
theorem dX3_feastMonth_47 : decode cX3_feastMonth 47 = .ok (.iaload, 1) := by decide +kernel
theorem dX3_feastMonth_48 : decode cX3_feastMonth 48 = .ok (.ireturn, 1) := by decide +kernel
theorem dX3_feastDay_0 : decode cX3_feastDay 0 = .ok (.aload_n 0, 1) := by decide +kernel
theorem dX3_feastDay_1 : decode cX3_feastDay 1 = .ok (.iload_n 1, 1) := by decide +kernel
theorem dX3_feastDay_2 : decode cX3_feastDay 2 = .ok (.invokestatic 96, 3) := by decide +kernel
theorem dX3_feastDay_5 : decode cX3_feastDay 5 = .ok (.iload_n 2, 1) := by decide +kernel
theorem dX3_feastDay_6 : decode cX3_feastDay 6 = .ok (.i2l, 1) := by decide +kernel
theorem dX3_feastDay_7 : decode cX3_feastDay 7 = .ok (.lconst 1, 1) := by decide +kernel
theorem dX3_feastDay_8 : decode cX3_feastDay 8 = .ok (.ldc2_w 157, 3) := by decide +kernel
theorem dX3_feastDay_11 : decode cX3_feastDay 11 = .ok (.invokestatic 30, 3) := by decide +kernel
theorem dX3_feastDay_14 : decode cX3_feastDay 14 = .ok (.ifCond .ne 7, 3) := by decide +kernel
theorem dX3_feastDay_17 : decode cX3_feastDay 17 = .ok (.iconst 1, 1) := by decide +kernel
theorem dX3_feastDay_18 : decode cX3_feastDay 18 = .ok (.goto 4, 3) := by decide +kernel
theorem dX3_feastDay_21 : decode cX3_feastDay 21 = .ok (.iconst 0, 1) := by decide +kernel
theorem dX3_feastDay_22 : decode cX3_feastDay 22 = .ok (.invokevirtual 103, 3) := by decide +kernel
theorem dX3_feastDay_25 : decode cX3_feastDay 25 = .ok (.ifCond .eq 5, 3) := by decide +kernel
theorem dX3_feastDay_28 : decode cX3_feastDay 28 = .ok (.iconst 0, 1) := by decide +kernel
theorem dX3_feastDay_29 : decode cX3_feastDay 29 = .ok (.ireturn, 1) := by decide +kernel
theorem dX3_feastDay_30 : decode cX3_feastDay 30 = .ok (.aload_n 0, 1) := by decide +kernel
theorem dX3_feastDay_31 : decode cX3_feastDay 31 = .ok (.getfield 18, 3) := by decide +kernel
theorem dX3_feastDay_34 : decode cX3_feastDay 34 = .ok (.iload_n 1, 1) := by decide +kernel
theorem dX3_feastDay_35 : decode cX3_feastDay 35 = .ok (.aaload, 1) := by decide +kernel
theorem dX3_feastDay_36 : decode cX3_feastDay 36 = .ok (.iconst 1, 1) := by decide +kernel
theorem dX3_feastDay_37 : decode cX3_feastDay 37 = .ok (.iaload, 1) := by decide +kernel
theorem dX3_feastDay_38 : decode cX3_feastDay 38 = .ok (.istore 4, 2) := by decide +kernel
theorem dX3_feastDay_40 : decode cX3_feastDay 40 = .ok (.aload_n 0, 1) := by decide +kernel
theorem dX3_feastDay_41 : decode cX3_feastDay 41 = .ok (.iload_n 1, 1) := by decide +kernel
theorem dX3_feastDay_42 : decode cX3_feastDay 42 = .ok (.aload_n 0, 1) := by decide +kernel
theorem dX3_feastDay_43 : decode cX3_feastDay 43 = .ok (.getfield 18, 3) := by decide +kernel
theorem dX3_feastDay_46 : decode cX3_feastDay 46 = .ok (.iload_n 1, 1) := by decide +kernel
theorem dX3_feastDay_47 : decode cX3_feastDay 47 = .ok (.aaload, 1) := by decide +kernel
theorem dX3_feastDay_48 : decode cX3_feastDay 48 = .ok (.iconst 0, 1) := by decide +kernel
theorem dX3_feastDay_49 : decode cX3_feastDay 49 = .ok (.iaload, 1) := by decide +kernel
theorem dX3_feastDay_50 : decode cX3_feastDay 50 = .ok (.iload_n 2, 1) := by decide +kernel
theorem dX3_feastDay_51 : decode cX3_feastDay 51 = .ok (.invokevirtual 159, 3) := by decide +kernel
theorem dX3_feastDay_54 : decode cX3_feastDay 54 = .ok (.ifCond .eq 8, 3) := by decide +kernel
theorem dX3_feastDay_57 : decode cX3_feastDay 57 = .ok (.iload 4, 2) := by decide +kernel
theorem dX3_feastDay_59 : decode cX3_feastDay 59 = .ok (.goto 5, 3) := by decide +kernel
theorem dX3_feastDay_62 : decode cX3_feastDay 62 = .ok (.bipush (-9), 2) := by decide +kernel
theorem dX3_feastDay_64 : decode cX3_feastDay 64 = .ok (.ireturn, 1) := by decide +kernel
theorem dX3_feastOf_0 : decode cX3_feastOf 0 = .ok (.aload_n 0, 1) := by decide +kernel
theorem dX3_feastOf_1 : decode cX3_feastOf 1 = .ok (.iload_n 1, 1) := by decide +kernel
theorem dX3_feastOf_2 : decode cX3_feastOf 2 = .ok (.invokestatic 96, 3) := by decide +kernel
theorem dX3_feastOf_5 : decode cX3_feastOf 5 = .ok (.ifCond .ne 10, 3) := by decide +kernel
theorem dX3_feastOf_8 : decode cX3_feastOf 8 = .ok (.iload_n 2, 1) := by decide +kernel
theorem dX3_feastOf_9 : decode cX3_feastOf 9 = .ok (.invokestatic 96, 3) := by decide +kernel
theorem dX3_feastOf_12 : decode cX3_feastOf 12 = .ok (.ifCond .eq 7, 3) := by decide +kernel
theorem dX3_feastOf_15 : decode cX3_feastOf 15 = .ok (.iconst 1, 1) := by decide +kernel
theorem dX3_feastOf_16 : decode cX3_feastOf 16 = .ok (.goto 4, 3) := by decide +kernel
theorem dX3_feastOf_19 : decode cX3_feastOf 19 = .ok (.iconst 0, 1) := by decide +kernel
theorem dX3_feastOf_20 : decode cX3_feastOf 20 = .ok (.iconst 0, 1) := by decide +kernel
theorem dX3_feastOf_21 : decode cX3_feastOf 21 = .ok (.invokevirtual 103, 3) := by decide +kernel
theorem dX3_feastOf_24 : decode cX3_feastOf 24 = .ok (.ifCond .eq 5, 3) := by decide +kernel
theorem dX3_feastOf_27 : decode cX3_feastOf 27 = .ok (.iconst 0, 1) := by decide +kernel
theorem dX3_feastOf_28 : decode cX3_feastOf 28 = .ok (.ireturn, 1) := by decide +kernel
theorem dX3_feastOf_29 : decode cX3_feastOf 29 = .ok (.aload_n 0, 1) := by decide +kernel
theorem dX3_feastOf_30 : decode cX3_feastOf 30 = .ok (.iload_n 1, 1) := by decide +kernel
theorem dX3_feastOf_31 : decode cX3_feastOf 31 = .ok (.aload_n 0, 1) := by decide +kernel
theorem dX3_feastOf_32 : decode cX3_feastOf 32 = .ok (.getfield 21, 3) := by decide +kernel
theorem dX3_feastOf_35 : decode cX3_feastOf 35 = .ok (.iload_n 2, 1) := by decide +kernel
theorem dX3_feastOf_36 : decode cX3_feastOf 36 = .ok (.aaload, 1) := by decide +kernel
theorem dX3_feastOf_37 : decode cX3_feastOf 37 = .ok (.iconst 1, 1) := by decide +kernel
theorem dX3_feastOf_38 : decode cX3_feastOf 38 = .ok (.iaload, 1) := by decide +kernel
theorem dX3_feastOf_39 : decode cX3_feastOf 39 = .ok (.aload_n 0, 1) := by decide +kernel
theorem dX3_feastOf_40 : decode cX3_feastOf 40 = .ok (.getfield 21, 3) := by decide +kernel
theorem dX3_feastOf_43 : decode cX3_feastOf 43 = .ok (.iload_n 2, 1) := by decide +kernel
theorem dX3_feastOf_44 : decode cX3_feastOf 44 = .ok (.aaload, 1) := by decide +kernel
theorem dX3_feastOf_45 : decode cX3_feastOf 45 = .ok (.iconst 2, 1) := by decide +kernel
theorem dX3_feastOf_46 : decode cX3_feastOf 46 = .ok (.iaload, 1) := by decide +kernel
theorem dX3_feastOf_47 : decode cX3_feastOf 47 = .ok (.invokevirtual 159, 3) := by decide +kernel
theorem dX3_feastOf_50 : decode cX3_feastOf 50 = .ok (.pop, 1) := by decide +kernel
theorem dX3_feastOf_51 : decode cX3_feastOf 51 = .ok (.aload_n 0, 1) := by decide +kernel
theorem dX3_feastOf_52 : decode cX3_feastOf 52 = .ok (.getfield 18, 3) := by decide +kernel
theorem dX3_feastOf_55 : decode cX3_feastOf 55 = .ok (.iload_n 1, 1) := by decide +kernel
theorem dX3_feastOf_56 : decode cX3_feastOf 56 = .ok (.aaload, 1) := by decide +kernel
theorem dX3_feastOf_57 : decode cX3_feastOf 57 = .ok (.invokestatic 163, 3) := by decide +kernel
theorem dX3_feastOf_60 : decode cX3_feastOf 60 = .ok (.invokestatic 78, 3) := by decide +kernel
theorem dX3_feastOf_63 : decode cX3_feastOf 63 = .ok (.ireturn, 1) := by decide +kernel
theorem dX3_feastLike_0 : decode cX3_feastLike 0 = .ok (.aload_n 0, 1) := by decide +kernel
theorem dX3_feastLike_1 : decode cX3_feastLike 1 = .ok (.iload_n 1, 1) := by decide +kernel
theorem dX3_feastLike_2 : decode cX3_feastLike 2 = .ok (.invokestatic 96, 3) := by decide +kernel
theorem dX3_feastLike_5 : decode cX3_feastLike 5 = .ok (.ifCond .ne 10, 3) := by decide +kernel
theorem dX3_feastLike_8 : decode cX3_feastLike 8 = .ok (.iload_n 2, 1) := by decide +kernel
theorem dX3_feastLike_9 : decode cX3_feastLike 9 = .ok (.invokestatic 96, 3) := by decide +kernel
theorem dX3_feastLike_12 : decode cX3_feastLike 12 = .ok (.ifCond .eq 7, 3) := by decide +kernel
theorem dX3_feastLike_15 : decode cX3_feastLike 15 = .ok (.iconst 1, 1) := by decide +kernel
theorem dX3_feastLike_16 : decode cX3_feastLike 16 = .ok (.goto 4, 3) := by decide +kernel
theorem dX3_feastLike_19 : decode cX3_feastLike 19 = .ok (.iconst 0, 1) := by decide +kernel
theorem dX3_feastLike_20 : decode cX3_feastLike 20 = .ok (.iconst 0, 1) := by decide +kernel
theorem dX3_feastLike_21 : decode cX3_feastLike 21 = .ok (.invokevirtual 103, 3) := by decide +kernel
theorem dX3_feastLike_24 : decode cX3_feastLike 24 = .ok (.ifCond .eq 5, 3) := by decide +kernel
theorem dX3_feastLike_27 : decode cX3_feastLike 27 = .ok (.iconst 0, 1) := by decide +kernel
theorem dX3_feastLike_28 : decode cX3_feastLike 28 = .ok (.ireturn, 1) := by decide +kernel
theorem dX3_feastLike_29 : decode cX3_feastLike 29 = .ok (.aload_n 0, 1) := by decide +kernel
theorem dX3_feastLike_30 : decode cX3_feastLike 30 = .ok (.getfield 18, 3) := by decide +kernel
theorem dX3_feastLike_33 : decode cX3_feastLike 33 = .ok (.iload_n 1, 1) := by decide +kernel
theorem dX3_feastLike_34 : decode cX3_feastLike 34 = .ok (.aaload, 1) := by decide +kernel
theorem dX3_feastLike_35 : decode cX3_feastLike 35 = .ok (.aload_n 0, 1) := by decide +kernel
theorem dX3_feastLike_36 : decode cX3_feastLike 36 = .ok (.getfield 18, 3) := by decide +kernel
theorem dX3_feastLike_39 : decode cX3_feastLike 39 = .ok (.iload_n 2, 1) := by decide +kernel
theorem dX3_feastLike_40 : decode cX3_feastLike 40 = .ok (.aaload, 1) := by decide +kernel
theorem dX3_feastLike_41 : decode cX3_feastLike 41 = .ok (.invokestatic 144, 3) := by decide +kernel
theorem dX3_feastLike_44 : decode cX3_feastLike 44 = .ok (.istore_n 3, 1) := by decide +kernel
theorem dX3_feastLike_45 : decode cX3_feastLike 45 = .ok (.aload_n 0, 1) := by decide +kernel
theorem dX3_feastLike_46 : decode cX3_feastLike 46 = .ok (.iload_n 1, 1) := by decide +kernel
theorem dX3_feastLike_47 : decode cX3_feastLike 47 = .ok (.aload_n 0, 1) := by decide +kernel
theorem dX3_feastLike_48 : decode cX3_feastLike 48 = .ok (.getfield 18, 3) := by decide +kernel
theorem dX3_feastLike_51 : decode cX3_feastLike 51 = .ok (.iload_n 2, 1) := by decide +kernel
theorem dX3_feastLike_52 : decode cX3_feastLike 52 = .ok (.aaload, 1) := by decide +kernel
theorem dX3_feastLike_53 : decode cX3_feastLike 53 = .ok (.iconst 0, 1) := by decide +kernel
theorem dX3_feastLike_54 : decode cX3_feastLike 54 = .ok (.iaload, 1) := by decide +kernel
theorem dX3_feastLike_55 : decode cX3_feastLike 55 = .ok (.aload_n 0, 1) := by decide +kernel
theorem dX3_feastLike_56 : decode cX3_feastLike 56 = .ok (.getfield 18, 3) := by decide +kernel
theorem dX3_feastLike_59 : decode cX3_feastLike 59 = .ok (.iload_n 2, 1) := by decide +kernel
theorem dX3_feastLike_60 : decode cX3_feastLike 60 = .ok (.aaload, 1) := by decide +kernel
theorem dX3_feastLike_61 : decode cX3_feastLike 61 = .ok (.iconst 1, 1) := by decide +kernel
theorem dX3_feastLike_62 : decode cX3_feastLike 62 = .ok (.iaload, 1) := by decide +kernel
theorem dX3_feastLike_63 : decode cX3_feastLike 63 = .ok (.invokevirtual 159, 3) := by decide +kernel
theorem dX3_feastLike_66 : decode cX3_feastLike 66 = .ok (.pop, 1) := by decide +kernel
theorem dX3_feastLike_67 : decode cX3_feastLike 67 = .ok (.iload_n 3, 1) := by decide +kernel
theorem dX3_feastLike_68 : decode cX3_feastLike 68 = .ok (.invokestatic 78, 3) := by decide +kernel
theorem dX3_feastLike_71 : decode cX3_feastLike 71 = .ok (.ireturn, 1) := by decide +kernel
theorem dX3_putDay_0 : decode cX3_putDay 0 = .ok (.aload_n 0, 1) := by decide +kernel
theorem dX3_putDay_1 : decode cX3_putDay 1 = .ok (.getfield 21, 3) := by decide +kernel
theorem dX3_putDay_4 : decode cX3_putDay 4 = .ok (.iload_n 1, 1) := by decide +kernel
theorem dX3_putDay_5 : decode cX3_putDay 5 = .ok (.iconst 3, 1) := by decide +kernel
theorem dX3_putDay_6 : decode cX3_putDay 6 = .ok (.newarray .int, 2) := by decide +kernel
theorem dX3_putDay_8 : decode cX3_putDay 8 = .ok (.dup, 1) := by decide +kernel
theorem dX3_putDay_9 : decode cX3_putDay 9 = .ok (.iconst 0, 1) := by decide +kernel
theorem dX3_putDay_10 : decode cX3_putDay 10 = .ok (.iload_n 2, 1) := by decide +kernel
theorem dX3_putDay_11 : decode cX3_putDay 11 = .ok (.iastore, 1) := by decide +kernel
theorem dX3_putDay_12 : decode cX3_putDay 12 = .ok (.dup, 1) := by decide +kernel
theorem dX3_putDay_13 : decode cX3_putDay 13 = .ok (.iconst 1, 1) := by decide +kernel
theorem dX3_putDay_14 : decode cX3_putDay 14 = .ok (.iload_n 3, 1) := by decide +kernel
theorem dX3_putDay_15 : decode cX3_putDay 15 = .ok (.iastore, 1) := by decide +kernel
theorem dX3_putDay_16 : decode cX3_putDay 16 = .ok (.dup, 1) := by decide +kernel
theorem dX3_putDay_17 : decode cX3_putDay 17 = .ok (.iconst 2, 1) := by decide +kernel
theorem dX3_putDay_18 : decode cX3_putDay 18 = .ok (.iload 4, 2) := by decide +kernel
theorem dX3_putDay_20 : decode cX3_putDay 20 = .ok (.iastore, 1) := by decide +kernel
theorem dX3_putDay_21 : decode cX3_putDay 21 = .ok (.aastore, 1) := by decide +kernel
theorem dX3_putDay_22 : decode cX3_putDay 22 = .ok (.return_, 1) := by decide +kernel
theorem dX3_dayAt_0 : decode cX3_dayAt 0 = .ok (.aload_n 0, 1) := by decide +kernel
theorem dX3_dayAt_1 : decode cX3_dayAt 1 = .ok (.iload_n 1, 1) := by decide +kernel
theorem dX3_dayAt_2 : decode cX3_dayAt 2 = .ok (.invokestatic 96, 3) := by decide +kernel
theorem dX3_dayAt_5 : decode cX3_dayAt 5 = .ok (.ifCond .ne 10, 3) := by decide +kernel
theorem dX3_dayAt_8 : decode cX3_dayAt 8 = .ok (.iload_n 2, 1) := by decide +kernel
theorem dX3_dayAt_9 : decode cX3_dayAt 9 = .ok (.invokestatic 96, 3) := by decide +kernel
theorem dX3_dayAt_12 : decode cX3_dayAt 12 = .ok (.ifCond .eq 7, 3) := by decide +kernel
theorem dX3_dayAt_15 : decode cX3_dayAt 15 = .ok (.iconst 1, 1) := by decide +kernel
theorem dX3_dayAt_16 : decode cX3_dayAt 16 = .ok (.goto 4, 3) := by decide +kernel
theorem dX3_dayAt_19 : decode cX3_dayAt 19 = .ok (.iconst 0, 1) := by decide +kernel
theorem dX3_dayAt_20 : decode cX3_dayAt 20 = .ok (.iload_n 3, 1) := by decide +kernel
theorem dX3_dayAt_21 : decode cX3_dayAt 21 = .ok (.i2l, 1) := by decide +kernel
theorem dX3_dayAt_22 : decode cX3_dayAt 22 = .ok (.lconst 1, 1) := by decide +kernel
theorem dX3_dayAt_23 : decode cX3_dayAt 23 = .ok (.ldc2_w 157, 3) := by decide +kernel
theorem dX3_dayAt_26 : decode cX3_dayAt 26 = .ok (.invokestatic 30, 3) := by decide +kernel
theorem dX3_dayAt_29 : decode cX3_dayAt 29 = .ok (.ifCond .ne 7, 3) := by decide +kernel
theorem dX3_dayAt_32 : decode cX3_dayAt 32 = .ok (.iconst 1, 1) := by decide +kernel
theorem dX3_dayAt_33 : decode cX3_dayAt 33 = .ok (.goto 4, 3) := by decide +kernel
theorem dX3_dayAt_36 : decode cX3_dayAt 36 = .ok (.iconst 0, 1) := by decide +kernel
theorem dX3_dayAt_37 : decode cX3_dayAt 37 = .ok (.invokevirtual 103, 3) := by decide +kernel
theorem dX3_dayAt_40 : decode cX3_dayAt 40 = .ok (.ifCond .eq 5, 3) := by decide +kernel
theorem dX3_dayAt_43 : decode cX3_dayAt 43 = .ok (.iconst 0, 1) := by decide +kernel
theorem dX3_dayAt_44 : decode cX3_dayAt 44 = .ok (.ireturn, 1) := by decide +kernel
theorem dX3_dayAt_45 : decode cX3_dayAt 45 = .ok (.iload_n 3, 1) := by decide +kernel
theorem dX3_dayAt_46 : decode cX3_dayAt 46 = .ok (.aload_n 0, 1) := by decide +kernel
theorem dX3_dayAt_47 : decode cX3_dayAt 47 = .ok (.iload_n 2, 1) := by decide +kernel
theorem dX3_dayAt_48 : decode cX3_dayAt 48 = .ok (.invokevirtual 86, 3) := by decide +kernel
theorem dX3_dayAt_51 : decode cX3_dayAt 51 = .ok (.if_icmp .le 6, 3) := by decide +kernel
theorem dX3_dayAt_54 : decode cX3_dayAt 54 = .ok (.bipush (-9), 2) := by decide +kernel
theorem dX3_dayAt_56 : decode cX3_dayAt 56 = .ok (.ireturn, 1) := by decide +kernel
theorem dX3_dayAt_57 : decode cX3_dayAt 57 = .ok (.aload_n 0, 1) := by decide +kernel
theorem dX3_dayAt_58 : decode cX3_dayAt 58 = .ok (.iload_n 1, 1) := by decide +kernel
theorem dX3_dayAt_59 : decode cX3_dayAt 59 = .ok (.aload_n 0, 1) := by decide +kernel
theorem dX3_dayAt_60 : decode cX3_dayAt 60 = .ok (.getfield 9, 3) := by decide +kernel
theorem dX3_dayAt_63 : decode cX3_dayAt 63 = .ok (.iload_n 2, 1) := by decide +kernel
theorem dX3_dayAt_64 : decode cX3_dayAt 64 = .ok (.aaload, 1) := by decide +kernel
theorem dX3_dayAt_65 : decode cX3_dayAt 65 = .ok (.iconst 0, 1) := by decide +kernel
theorem dX3_dayAt_66 : decode cX3_dayAt 66 = .ok (.iaload, 1) := by decide +kernel
theorem dX3_dayAt_67 : decode cX3_dayAt 67 = .ok (.aload_n 0, 1) := by decide +kernel
theorem dX3_dayAt_68 : decode cX3_dayAt 68 = .ok (.getfield 9, 3) := by decide +kernel
theorem dX3_dayAt_71 : decode cX3_dayAt 71 = .ok (.iload_n 2, 1) := by decide +kernel
theorem dX3_dayAt_72 : decode cX3_dayAt 72 = .ok (.aaload, 1) := by decide +kernel
theorem dX3_dayAt_73 : decode cX3_dayAt 73 = .ok (.iconst 1, 1) := by decide +kernel
theorem dX3_dayAt_74 : decode cX3_dayAt 74 = .ok (.iaload, 1) := by decide +kernel
theorem dX3_dayAt_75 : decode cX3_dayAt 75 = .ok (.iload_n 3, 1) := by decide +kernel
theorem dX3_dayAt_76 : decode cX3_dayAt 76 = .ok (.invokevirtual 173, 3) := by decide +kernel
theorem dX3_dayAt_79 : decode cX3_dayAt 79 = .ok (.aload_n 0, 1) := by decide +kernel
theorem dX3_dayAt_80 : decode cX3_dayAt 80 = .ok (.getfield 21, 3) := by decide +kernel
theorem dX3_dayAt_83 : decode cX3_dayAt 83 = .ok (.iload_n 1, 1) := by decide +kernel
theorem dX3_dayAt_84 : decode cX3_dayAt 84 = .ok (.aaload, 1) := by decide +kernel
theorem dX3_dayAt_85 : decode cX3_dayAt 85 = .ok (.invokestatic 177, 3) := by decide +kernel
theorem dX3_dayAt_88 : decode cX3_dayAt 88 = .ok (.ireturn, 1) := by decide +kernel
theorem dX3_dayEnd_0 : decode cX3_dayEnd 0 = .ok (.aload_n 0, 1) := by decide +kernel
theorem dX3_dayEnd_1 : decode cX3_dayEnd 1 = .ok (.iload_n 1, 1) := by decide +kernel
theorem dX3_dayEnd_2 : decode cX3_dayEnd 2 = .ok (.invokestatic 96, 3) := by decide +kernel
theorem dX3_dayEnd_5 : decode cX3_dayEnd 5 = .ok (.ifCond .ne 10, 3) := by decide +kernel
theorem dX3_dayEnd_8 : decode cX3_dayEnd 8 = .ok (.iload_n 2, 1) := by decide +kernel
theorem dX3_dayEnd_9 : decode cX3_dayEnd 9 = .ok (.invokestatic 96, 3) := by decide +kernel
theorem dX3_dayEnd_12 : decode cX3_dayEnd 12 = .ok (.ifCond .eq 7, 3) := by decide +kernel
theorem dX3_dayEnd_15 : decode cX3_dayEnd 15 = .ok (.iconst 1, 1) := by decide +kernel
theorem dX3_dayEnd_16 : decode cX3_dayEnd 16 = .ok (.goto 4, 3) := by decide +kernel
theorem dX3_dayEnd_19 : decode cX3_dayEnd 19 = .ok (.iconst 0, 1) := by decide +kernel
theorem dX3_dayEnd_20 : decode cX3_dayEnd 20 = .ok (.iconst 0, 1) := by decide +kernel
theorem dX3_dayEnd_21 : decode cX3_dayEnd 21 = .ok (.invokevirtual 103, 3) := by decide +kernel
theorem dX3_dayEnd_24 : decode cX3_dayEnd 24 = .ok (.ifCond .eq 5, 3) := by decide +kernel
theorem dX3_dayEnd_27 : decode cX3_dayEnd 27 = .ok (.iconst 0, 1) := by decide +kernel
theorem dX3_dayEnd_28 : decode cX3_dayEnd 28 = .ok (.ireturn, 1) := by decide +kernel
theorem dX3_dayEnd_29 : decode cX3_dayEnd 29 = .ok (.aload_n 0, 1) := by decide +kernel
theorem dX3_dayEnd_30 : decode cX3_dayEnd 30 = .ok (.iload_n 1, 1) := by decide +kernel
theorem dX3_dayEnd_31 : decode cX3_dayEnd 31 = .ok (.aload_n 0, 1) := by decide +kernel
theorem dX3_dayEnd_32 : decode cX3_dayEnd 32 = .ok (.getfield 9, 3) := by decide +kernel
theorem dX3_dayEnd_35 : decode cX3_dayEnd 35 = .ok (.iload_n 2, 1) := by decide +kernel
theorem dX3_dayEnd_36 : decode cX3_dayEnd 36 = .ok (.aaload, 1) := by decide +kernel
theorem dX3_dayEnd_37 : decode cX3_dayEnd 37 = .ok (.iconst 0, 1) := by decide +kernel
theorem dX3_dayEnd_38 : decode cX3_dayEnd 38 = .ok (.iaload, 1) := by decide +kernel
theorem dX3_dayEnd_39 : decode cX3_dayEnd 39 = .ok (.aload_n 0, 1) := by decide +kernel
theorem dX3_dayEnd_40 : decode cX3_dayEnd 40 = .ok (.getfield 9, 3) := by decide +kernel
theorem dX3_dayEnd_43 : decode cX3_dayEnd 43 = .ok (.iload_n 2, 1) := by decide +kernel
theorem dX3_dayEnd_44 : decode cX3_dayEnd 44 = .ok (.aaload, 1) := by decide +kernel
theorem dX3_dayEnd_45 : decode cX3_dayEnd 45 = .ok (.iconst 1, 1) := by decide +kernel
theorem dX3_dayEnd_46 : decode cX3_dayEnd 46 = .ok (.iaload, 1) := by decide +kernel
theorem dX3_dayEnd_47 : decode cX3_dayEnd 47 = .ok (.aload_n 0, 1) := by decide +kernel
theorem dX3_dayEnd_48 : decode cX3_dayEnd 48 = .ok (.iload_n 2, 1) := by decide +kernel
theorem dX3_dayEnd_49 : decode cX3_dayEnd 49 = .ok (.invokevirtual 86, 3) := by decide +kernel
theorem dX3_dayEnd_52 : decode cX3_dayEnd 52 = .ok (.invokevirtual 173, 3) := by decide +kernel
theorem dX3_dayEnd_55 : decode cX3_dayEnd 55 = .ok (.aload_n 0, 1) := by decide +kernel
theorem dX3_dayEnd_56 : decode cX3_dayEnd 56 = .ok (.iload_n 2, 1) := by decide +kernel
theorem dX3_dayEnd_57 : decode cX3_dayEnd 57 = .ok (.invokevirtual 86, 3) := by decide +kernel
theorem dX3_dayEnd_60 : decode cX3_dayEnd 60 = .ok (.ireturn, 1) := by decide +kernel
theorem dX3_dayInYear_0 : decode cX3_dayInYear 0 = .ok (.aload_n 0, 1) := by decide +kernel
theorem dX3_dayInYear_1 : decode cX3_dayInYear 1 = .ok (.iload_n 1, 1) := by decide +kernel
theorem dX3_dayInYear_2 : decode cX3_dayInYear 2 = .ok (.invokestatic 96, 3) := by decide +kernel
theorem dX3_dayInYear_5 : decode cX3_dayInYear 5 = .ok (.ifCond .ne 10, 3) := by decide +kernel
theorem dX3_dayInYear_8 : decode cX3_dayInYear 8 = .ok (.iload_n 2, 1) := by decide +kernel
theorem dX3_dayInYear_9 : decode cX3_dayInYear 9 = .ok (.invokestatic 96, 3) := by decide +kernel
theorem dX3_dayInYear_12 : decode cX3_dayInYear 12 = .ok (.ifCond .eq 7, 3) := by decide +kernel
theorem dX3_dayInYear_15 : decode cX3_dayInYear 15 = .ok (.iconst 1, 1) := by decide +kernel
theorem dX3_dayInYear_16 : decode cX3_dayInYear 16 = .ok (.goto 4, 3) := by decide +kernel
theorem dX3_dayInYear_19 : decode cX3_dayInYear 19 = .ok (.iconst 0, 1) := by decide +kernel
theorem dX3_dayInYear_20 : decode cX3_dayInYear 20 = .ok (.iload_n 3, 1) := by decide +kernel
theorem dX3_dayInYear_21 : decode cX3_dayInYear 21 = .ok (.i2l, 1) := by decide +kernel
theorem dX3_dayInYear_22 : decode cX3_dayInYear 22 = .ok (.lconst 1, 1) := by decide +kernel
theorem dX3_dayInYear_23 : decode cX3_dayInYear 23 = .ok (.ldc2_w 181, 3) := by decide +kernel
theorem dX3_dayInYear_26 : decode cX3_dayInYear 26 = .ok (.invokestatic 30, 3) := by decide +kernel
theorem dX3_dayInYear_29 : decode cX3_dayInYear 29 = .ok (.ifCond .ne 7, 3) := by decide +kernel
theorem dX3_dayInYear_32 : decode cX3_dayInYear 32 = .ok (.iconst 1, 1) := by decide +kernel
theorem dX3_dayInYear_33 : decode cX3_dayInYear 33 = .ok (.goto 4, 3) := by decide +kernel
theorem dX3_dayInYear_36 : decode cX3_dayInYear 36 = .ok (.iconst 0, 1) := by decide +kernel
theorem dX3_dayInYear_37 : decode cX3_dayInYear 37 = .ok (.invokevirtual 103, 3) := by decide +kernel
theorem dX3_dayInYear_40 : decode cX3_dayInYear 40 = .ok (.ifCond .eq 5, 3) := by decide +kernel
theorem dX3_dayInYear_43 : decode cX3_dayInYear 43 = .ok (.iconst 0, 1) := by decide +kernel
theorem dX3_dayInYear_44 : decode cX3_dayInYear 44 = .ok (.ireturn, 1) := by decide +kernel
theorem dX3_dayInYear_45 : decode cX3_dayInYear 45 = .ok (.iload_n 3, 1) := by decide +kernel
theorem dX3_dayInYear_46 : decode cX3_dayInYear 46 = .ok (.aload_n 0, 1) := by decide +kernel
theorem dX3_dayInYear_47 : decode cX3_dayInYear 47 = .ok (.getfield 15, 3) := by decide +kernel
theorem dX3_dayInYear_50 : decode cX3_dayInYear 50 = .ok (.iload_n 2, 1) := by decide +kernel
theorem dX3_dayInYear_51 : decode cX3_dayInYear 51 = .ok (.iaload, 1) := by decide +kernel
theorem dX3_dayInYear_52 : decode cX3_dayInYear 52 = .ok (.i2l, 1) := by decide +kernel
theorem dX3_dayInYear_53 : decode cX3_dayInYear 53 = .ok (.invokestatic 148, 3) := by decide +kernel
theorem dX3_dayInYear_56 : decode cX3_dayInYear 56 = .ok (.if_icmp .le 6, 3) := by decide +kernel
theorem dX3_dayInYear_59 : decode cX3_dayInYear 59 = .ok (.bipush (-9), 2) := by decide +kernel
theorem dX3_dayInYear_61 : decode cX3_dayInYear 61 = .ok (.ireturn, 1) := by decide +kernel
theorem dX3_dayInYear_62 : decode cX3_dayInYear 62 = .ok (.iconst 1, 1) := by decide +kernel
theorem dX3_dayInYear_63 : decode cX3_dayInYear 63 = .ok (.istore 4, 2) := by decide +kernel
theorem dX3_dayInYear_65 : decode cX3_dayInYear 65 = .ok (.iload_n 3, 1) := by decide +kernel
theorem dX3_dayInYear_66 : decode cX3_dayInYear 66 = .ok (.istore 5, 2) := by decide +kernel
theorem dX3_dayInYear_68 : decode cX3_dayInYear 68 = .ok (.iload 5, 2) := by decide +kernel
theorem dX3_dayInYear_70 : decode cX3_dayInYear 70 = .ok (.aload_n 0, 1) := by decide +kernel
theorem dX3_dayInYear_71 : decode cX3_dayInYear 71 = .ok (.getfield 15, 3) := by decide +kernel
theorem dX3_dayInYear_74 : decode cX3_dayInYear 74 = .ok (.iload_n 2, 1) := by decide +kernel
theorem dX3_dayInYear_75 : decode cX3_dayInYear 75 = .ok (.iaload, 1) := by decide +kernel
theorem dX3_dayInYear_76 : decode cX3_dayInYear 76 = .ok (.i2l, 1) := by decide +kernel
theorem dX3_dayInYear_77 : decode cX3_dayInYear 77 = .ok (.iload 4, 2) := by decide +kernel
theorem dX3_dayInYear_79 : decode cX3_dayInYear 79 = .ok (.invokestatic 55, 3) := by decide +kernel
theorem dX3_dayInYear_82 : decode cX3_dayInYear 82 = .ok (.if_icmp .le 26, 3) := by decide +kernel
theorem dX3_dayInYear_85 : decode cX3_dayInYear 85 = .ok (.iload 5, 2) := by decide +kernel
theorem dX3_dayInYear_87 : decode cX3_dayInYear 87 = .ok (.aload_n 0, 1) := by decide +kernel
theorem dX3_dayInYear_88 : decode cX3_dayInYear 88 = .ok (.getfield 15, 3) := by decide +kernel
theorem dX3_dayInYear_91 : decode cX3_dayInYear 91 = .ok (.iload_n 2, 1) := by decide +kernel
theorem dX3_dayInYear_92 : decode cX3_dayInYear 92 = .ok (.iaload, 1) := by decide +kernel
theorem dX3_dayInYear_93 : decode cX3_dayInYear 93 = .ok (.i2l, 1) := by decide +kernel
theorem dX3_dayInYear_94 : decode cX3_dayInYear 94 = .ok (.iload 4, 2) := by decide +kernel
theorem dX3_dayInYear_96 : decode cX3_dayInYear 96 = .ok (.invokestatic 55, 3) := by decide +kernel
theorem dX3_dayInYear_99 : decode cX3_dayInYear 99 = .ok (.isub, 1) := by decide +kernel
theorem dX3_dayInYear_100 : decode cX3_dayInYear 100 = .ok (.istore 5, 2) := by decide +kernel
theorem dX3_dayInYear_102 : decode cX3_dayInYear 102 = .ok (.iinc 4 1, 3) := by decide +kernel
theorem dX3_dayInYear_105 : decode cX3_dayInYear 105 = .ok (.goto (-37), 3) := by decide +kernel
theorem dX3_dayInYear_108 : decode cX3_dayInYear 108 = .ok (.aload_n 0, 1) := by decide +kernel
theorem dX3_dayInYear_109 : decode cX3_dayInYear 109 = .ok (.iload_n 1, 1) := by decide +kernel
theorem dX3_dayInYear_110 : decode cX3_dayInYear 110 = .ok (.aload_n 0, 1) := by decide +kernel
theorem dX3_dayInYear_111 : decode cX3_dayInYear 111 = .ok (.getfield 15, 3) := by decide +kernel
theorem dX3_dayInYear_114 : decode cX3_dayInYear 114 = .ok (.iload_n 2, 1) := by decide +kernel
theorem dX3_dayInYear_115 : decode cX3_dayInYear 115 = .ok (.iaload, 1) := by decide +kernel
theorem dX3_dayInYear_116 : decode cX3_dayInYear 116 = .ok (.iload 4, 2) := by decide +kernel
theorem dX3_dayInYear_118 : decode cX3_dayInYear 118 = .ok (.iload 5, 2) := by decide +kernel
theorem dX3_dayInYear_120 : decode cX3_dayInYear 120 = .ok (.invokevirtual 173, 3) := by decide +kernel
theorem dX3_dayInYear_123 : decode cX3_dayInYear 123 = .ok (.iload 4, 2) := by decide +kernel
theorem dX3_dayInYear_125 : decode cX3_dayInYear 125 = .ok (.ireturn, 1) := by decide +kernel
theorem dX3_dayOfFeast_0 : decode cX3_dayOfFeast 0 = .ok (.aload_n 0, 1) := by decide +kernel
theorem dX3_dayOfFeast_1 : decode cX3_dayOfFeast 1 = .ok (.iload_n 1, 1) := by decide +kernel
theorem dX3_dayOfFeast_2 : decode cX3_dayOfFeast 2 = .ok (.invokestatic 96, 3) := by decide +kernel
theorem dX3_dayOfFeast_5 : decode cX3_dayOfFeast 5 = .ok (.ifCond .ne 10, 3) := by decide +kernel
theorem dX3_dayOfFeast_8 : decode cX3_dayOfFeast 8 = .ok (.iload_n 2, 1) := by decide +kernel
theorem dX3_dayOfFeast_9 : decode cX3_dayOfFeast 9 = .ok (.invokestatic 96, 3) := by decide +kernel
theorem dX3_dayOfFeast_12 : decode cX3_dayOfFeast 12 = .ok (.ifCond .eq 7, 3) := by decide +kernel
theorem dX3_dayOfFeast_15 : decode cX3_dayOfFeast 15 = .ok (.iconst 1, 1) := by decide +kernel
theorem dX3_dayOfFeast_16 : decode cX3_dayOfFeast 16 = .ok (.goto 4, 3) := by decide +kernel
theorem dX3_dayOfFeast_19 : decode cX3_dayOfFeast 19 = .ok (.iconst 0, 1) := by decide +kernel
theorem dX3_dayOfFeast_20 : decode cX3_dayOfFeast 20 = .ok (.iload_n 3, 1) := by decide +kernel
theorem dX3_dayOfFeast_21 : decode cX3_dayOfFeast 21 = .ok (.i2l, 1) := by decide +kernel
theorem dX3_dayOfFeast_22 : decode cX3_dayOfFeast 22 = .ok (.invokestatic 90, 3) := by decide +kernel
theorem dX3_dayOfFeast_25 : decode cX3_dayOfFeast 25 = .ok (.invokevirtual 103, 3) := by decide +kernel
theorem dX3_dayOfFeast_28 : decode cX3_dayOfFeast 28 = .ok (.ifCond .eq 5, 3) := by decide +kernel
theorem dX3_dayOfFeast_31 : decode cX3_dayOfFeast 31 = .ok (.iconst 0, 1) := by decide +kernel
theorem dX3_dayOfFeast_32 : decode cX3_dayOfFeast 32 = .ok (.ireturn, 1) := by decide +kernel
theorem dX3_dayOfFeast_33 : decode cX3_dayOfFeast 33 = .ok (.aload_n 0, 1) := by decide +kernel
theorem dX3_dayOfFeast_34 : decode cX3_dayOfFeast 34 = .ok (.getfield 21, 3) := by decide +kernel
theorem dX3_dayOfFeast_37 : decode cX3_dayOfFeast 37 = .ok (.iload_n 1, 1) := by decide +kernel
theorem dX3_dayOfFeast_38 : decode cX3_dayOfFeast 38 = .ok (.aload_n 0, 1) := by decide +kernel
theorem dX3_dayOfFeast_39 : decode cX3_dayOfFeast 39 = .ok (.getfield 18, 3) := by decide +kernel
theorem dX3_dayOfFeast_42 : decode cX3_dayOfFeast 42 = .ok (.iload_n 2, 1) := by decide +kernel
theorem dX3_dayOfFeast_43 : decode cX3_dayOfFeast 43 = .ok (.aaload, 1) := by decide +kernel
theorem dX3_dayOfFeast_44 : decode cX3_dayOfFeast 44 = .ok (.iload_n 3, 1) := by decide +kernel
theorem dX3_dayOfFeast_45 : decode cX3_dayOfFeast 45 = .ok (.invokestatic 183, 3) := by decide +kernel
theorem dX3_dayOfFeast_48 : decode cX3_dayOfFeast 48 = .ok (.aastore, 1) := by decide +kernel
theorem dX3_dayOfFeast_49 : decode cX3_dayOfFeast 49 = .ok (.aload_n 0, 1) := by decide +kernel
theorem dX3_dayOfFeast_50 : decode cX3_dayOfFeast 50 = .ok (.getfield 21, 3) := by decide +kernel
theorem dX3_dayOfFeast_53 : decode cX3_dayOfFeast 53 = .ok (.iload_n 1, 1) := by decide +kernel
theorem dX3_dayOfFeast_54 : decode cX3_dayOfFeast 54 = .ok (.aaload, 1) := by decide +kernel
theorem dX3_dayOfFeast_55 : decode cX3_dayOfFeast 55 = .ok (.invokestatic 177, 3) := by decide +kernel
theorem dX3_dayOfFeast_58 : decode cX3_dayOfFeast 58 = .ok (.ireturn, 1) := by decide +kernel
theorem dX3_dayOfYear_0 : decode cX3_dayOfYear 0 = .ok (.aload_n 0, 1) := by decide +kernel
theorem dX3_dayOfYear_1 : decode cX3_dayOfYear 1 = .ok (.iload_n 1, 1) := by decide +kernel
theorem dX3_dayOfYear_2 : decode cX3_dayOfYear 2 = .ok (.invokestatic 96, 3) := by decide +kernel
theorem dX3_dayOfYear_5 : decode cX3_dayOfYear 5 = .ok (.ifCond .ne 17, 3) := by decide +kernel
theorem dX3_dayOfYear_8 : decode cX3_dayOfYear 8 = .ok (.iload_n 2, 1) := by decide +kernel
theorem dX3_dayOfYear_9 : decode cX3_dayOfYear 9 = .ok (.invokestatic 96, 3) := by decide +kernel
theorem dX3_dayOfYear_12 : decode cX3_dayOfYear 12 = .ok (.ifCond .ne 10, 3) := by decide +kernel
theorem dX3_dayOfYear_15 : decode cX3_dayOfYear 15 = .ok (.iload_n 3, 1) := by decide +kernel
theorem dX3_dayOfYear_16 : decode cX3_dayOfYear 16 = .ok (.invokestatic 96, 3) := by decide +kernel
theorem dX3_dayOfYear_19 : decode cX3_dayOfYear 19 = .ok (.ifCond .eq 7, 3) := by decide +kernel
theorem dX3_dayOfYear_22 : decode cX3_dayOfYear 22 = .ok (.iconst 1, 1) := by decide +kernel
theorem dX3_dayOfYear_23 : decode cX3_dayOfYear 23 = .ok (.goto 4, 3) := by decide +kernel
theorem dX3_dayOfYear_26 : decode cX3_dayOfYear 26 = .ok (.iconst 0, 1) := by decide +kernel
theorem dX3_dayOfYear_27 : decode cX3_dayOfYear 27 = .ok (.iconst 0, 1) := by decide +kernel
theorem dX3_dayOfYear_28 : decode cX3_dayOfYear 28 = .ok (.invokevirtual 103, 3) := by decide +kernel
theorem dX3_dayOfYear_31 : decode cX3_dayOfYear 31 = .ok (.ifCond .eq 5, 3) := by decide +kernel
theorem dX3_dayOfYear_34 : decode cX3_dayOfYear 34 = .ok (.iconst 0, 1) := by decide +kernel
theorem dX3_dayOfYear_35 : decode cX3_dayOfYear 35 = .ok (.ireturn, 1) := by decide +kernel
theorem dX3_dayOfYear_36 : decode cX3_dayOfYear 36 = .ok (.aload_n 0, 1) := by decide +kernel
theorem dX3_dayOfYear_37 : decode cX3_dayOfYear 37 = .ok (.getfield 21, 3) := by decide +kernel
theorem dX3_dayOfYear_40 : decode cX3_dayOfYear 40 = .ok (.iload_n 1, 1) := by decide +kernel
theorem dX3_dayOfYear_41 : decode cX3_dayOfYear 41 = .ok (.aload_n 0, 1) := by decide +kernel
theorem dX3_dayOfYear_42 : decode cX3_dayOfYear 42 = .ok (.getfield 18, 3) := by decide +kernel
theorem dX3_dayOfYear_45 : decode cX3_dayOfYear 45 = .ok (.iload_n 3, 1) := by decide +kernel
theorem dX3_dayOfYear_46 : decode cX3_dayOfYear 46 = .ok (.aaload, 1) := by decide +kernel
theorem dX3_dayOfYear_47 : decode cX3_dayOfYear 47 = .ok (.aload_n 0, 1) := by decide +kernel
theorem dX3_dayOfYear_48 : decode cX3_dayOfYear 48 = .ok (.getfield 15, 3) := by decide +kernel
theorem dX3_dayOfYear_51 : decode cX3_dayOfYear 51 = .ok (.iload_n 2, 1) := by decide +kernel
theorem dX3_dayOfYear_52 : decode cX3_dayOfYear 52 = .ok (.iaload, 1) := by decide +kernel
theorem dX3_dayOfYear_53 : decode cX3_dayOfYear 53 = .ok (.invokestatic 183, 3) := by decide +kernel
theorem dX3_dayOfYear_56 : decode cX3_dayOfYear 56 = .ok (.aastore, 1) := by decide +kernel
theorem dX3_dayOfYear_57 : decode cX3_dayOfYear 57 = .ok (.aload_n 0, 1) := by decide +kernel
theorem dX3_dayOfYear_58 : decode cX3_dayOfYear 58 = .ok (.getfield 21, 3) := by decide +kernel
theorem dX3_dayOfYear_61 : decode cX3_dayOfYear 61 = .ok (.iload_n 1, 1) := by decide +kernel
theorem dX3_dayOfYear_62 : decode cX3_dayOfYear 62 = .ok (.aaload, 1) := by decide +kernel
theorem dX3_dayOfYear_63 : decode cX3_dayOfYear 63 = .ok (.iconst 2, 1) := by decide +kernel
theorem dX3_dayOfYear_64 : decode cX3_dayOfYear 64 = .ok (.iaload, 1) := by decide +kernel
theorem dX3_dayOfYear_65 : decode cX3_dayOfYear 65 = .ok (.ireturn, 1) := by decide +kernel
theorem dX3_leafTold_0 : decode cX3_leafTold 0 = .ok (.aload_n 0, 1) := by decide +kernel
theorem dX3_leafTold_1 : decode cX3_leafTold 1 = .ok (.getfield 9, 3) := by decide +kernel
theorem dX3_leafTold_4 : decode cX3_leafTold 4 = .ok (.iload_n 1, 1) := by decide +kernel
theorem dX3_leafTold_5 : decode cX3_leafTold 5 = .ok (.aaload, 1) := by decide +kernel
theorem dX3_leafTold_6 : decode cX3_leafTold 6 = .ok (.iconst 0, 1) := by decide +kernel
theorem dX3_leafTold_7 : decode cX3_leafTold 7 = .ok (.iaload, 1) := by decide +kernel
theorem dX3_leafTold_8 : decode cX3_leafTold 8 = .ok (.istore_n 3, 1) := by decide +kernel
theorem dX3_leafTold_9 : decode cX3_leafTold 9 = .ok (.aload_n 0, 1) := by decide +kernel
theorem dX3_leafTold_10 : decode cX3_leafTold 10 = .ok (.getfield 9, 3) := by decide +kernel
theorem dX3_leafTold_13 : decode cX3_leafTold 13 = .ok (.iload_n 1, 1) := by decide +kernel
theorem dX3_leafTold_14 : decode cX3_leafTold 14 = .ok (.aaload, 1) := by decide +kernel
theorem dX3_leafTold_15 : decode cX3_leafTold 15 = .ok (.iconst 1, 1) := by decide +kernel
theorem dX3_leafTold_16 : decode cX3_leafTold 16 = .ok (.iaload, 1) := by decide +kernel
theorem dX3_leafTold_17 : decode cX3_leafTold 17 = .ok (.istore 4, 2) := by decide +kernel
theorem dX3_leafTold_19 : decode cX3_leafTold 19 = .ok (.bipush 8, 2) := by decide +kernel
theorem dX3_leafTold_21 : decode cX3_leafTold 21 = .ok (.newarray .int, 2) := by decide +kernel
theorem dX3_leafTold_23 : decode cX3_leafTold 23 = .ok (.dup, 1) := by decide +kernel
theorem dX3_leafTold_24 : decode cX3_leafTold 24 = .ok (.iconst 0, 1) := by decide +kernel
theorem dX3_leafTold_25 : decode cX3_leafTold 25 = .ok (.iload_n 3, 1) := by decide +kernel
theorem dX3_leafTold_26 : decode cX3_leafTold 26 = .ok (.iastore, 1) := by decide +kernel
theorem dX3_leafTold_27 : decode cX3_leafTold 27 = .ok (.dup, 1) := by decide +kernel
theorem dX3_leafTold_28 : decode cX3_leafTold 28 = .ok (.iconst 1, 1) := by decide +kernel
theorem dX3_leafTold_29 : decode cX3_leafTold 29 = .ok (.iload 4, 2) := by decide +kernel
theorem dX3_leafTold_31 : decode cX3_leafTold 31 = .ok (.iastore, 1) := by decide +kernel
theorem dX3_leafTold_32 : decode cX3_leafTold 32 = .ok (.dup, 1) := by decide +kernel
theorem dX3_leafTold_33 : decode cX3_leafTold 33 = .ok (.iconst 2, 1) := by decide +kernel
theorem dX3_leafTold_34 : decode cX3_leafTold 34 = .ok (.iload_n 3, 1) := by decide +kernel
theorem dX3_leafTold_35 : decode cX3_leafTold 35 = .ok (.i2l, 1) := by decide +kernel
theorem dX3_leafTold_36 : decode cX3_leafTold 36 = .ok (.iload 4, 2) := by decide +kernel
theorem dX3_leafTold_38 : decode cX3_leafTold 38 = .ok (.invokestatic 55, 3) := by decide +kernel
theorem dX3_leafTold_41 : decode cX3_leafTold 41 = .ok (.iastore, 1) := by decide +kernel
theorem dX3_leafTold_42 : decode cX3_leafTold 42 = .ok (.dup, 1) := by decide +kernel
theorem dX3_leafTold_43 : decode cX3_leafTold 43 = .ok (.iconst 3, 1) := by decide +kernel
theorem dX3_leafTold_44 : decode cX3_leafTold 44 = .ok (.iload_n 3, 1) := by decide +kernel
theorem dX3_leafTold_45 : decode cX3_leafTold 45 = .ok (.i2l, 1) := by decide +kernel
theorem dX3_leafTold_46 : decode cX3_leafTold 46 = .ok (.invokestatic 148, 3) := by decide +kernel
theorem dX3_leafTold_49 : decode cX3_leafTold 49 = .ok (.iastore, 1) := by decide +kernel
theorem dX3_leafTold_50 : decode cX3_leafTold 50 = .ok (.dup, 1) := by decide +kernel
theorem dX3_leafTold_51 : decode cX3_leafTold 51 = .ok (.iconst 4, 1) := by decide +kernel
theorem dX3_leafTold_52 : decode cX3_leafTold 52 = .ok (.iload_n 3, 1) := by decide +kernel
theorem dX3_leafTold_53 : decode cX3_leafTold 53 = .ok (.i2l, 1) := by decide +kernel
theorem dX3_leafTold_54 : decode cX3_leafTold 54 = .ok (.invokestatic 44, 3) := by decide +kernel
theorem dX3_leafTold_57 : decode cX3_leafTold 57 = .ok (.invokestatic 78, 3) := by decide +kernel
theorem dX3_leafTold_60 : decode cX3_leafTold 60 = .ok (.iastore, 1) := by decide +kernel
theorem dX3_leafTold_61 : decode cX3_leafTold 61 = .ok (.dup, 1) := by decide +kernel
theorem dX3_leafTold_62 : decode cX3_leafTold 62 = .ok (.iconst 5, 1) := by decide +kernel
theorem dX3_leafTold_63 : decode cX3_leafTold 63 = .ok (.iload 4, 2) := by decide +kernel
theorem dX3_leafTold_65 : decode cX3_leafTold 65 = .ok (.iastore, 1) := by decide +kernel
theorem dX3_leafTold_66 : decode cX3_leafTold 66 = .ok (.dup, 1) := by decide +kernel
theorem dX3_leafTold_67 : decode cX3_leafTold 67 = .ok (.bipush 6, 2) := by decide +kernel
theorem dX3_leafTold_69 : decode cX3_leafTold 69 = .ok (.iload_n 3, 1) := by decide +kernel
theorem dX3_leafTold_70 : decode cX3_leafTold 70 = .ok (.invokestatic 141, 3) := by decide +kernel
theorem dX3_leafTold_73 : decode cX3_leafTold 73 = .ok (.iastore, 1) := by decide +kernel
theorem dX3_leafTold_74 : decode cX3_leafTold 74 = .ok (.dup, 1) := by decide +kernel
theorem dX3_leafTold_75 : decode cX3_leafTold 75 = .ok (.bipush 7, 2) := by decide +kernel
theorem dX3_leafTold_77 : decode cX3_leafTold 77 = .ok (.iload_n 3, 1) := by decide +kernel
theorem dX3_leafTold_78 : decode cX3_leafTold 78 = .ok (.invokestatic 134, 3) := by decide +kernel
theorem dX3_leafTold_81 : decode cX3_leafTold 81 = .ok (.iastore, 1) := by decide +kernel
theorem dX3_leafTold_82 : decode cX3_leafTold 82 = .ok (.astore 5, 2) := by decide +kernel
theorem dX3_leafTold_84 : decode cX3_leafTold 84 = .ok (.aload 5, 2) := by decide +kernel
theorem dX3_leafTold_86 : decode cX3_leafTold 86 = .ok (.iload_n 2, 1) := by decide +kernel
theorem dX3_leafTold_87 : decode cX3_leafTold 87 = .ok (.iaload, 1) := by decide +kernel
theorem dX3_leafTold_88 : decode cX3_leafTold 88 = .ok (.ireturn, 1) := by decide +kernel
theorem dX3_ofLeaf_0 : decode cX3_ofLeaf 0 = .ok (.aload_n 0, 1) := by decide +kernel
theorem dX3_ofLeaf_1 : decode cX3_ofLeaf 1 = .ok (.iload_n 1, 1) := by decide +kernel
theorem dX3_ofLeaf_2 : decode cX3_ofLeaf 2 = .ok (.invokestatic 96, 3) := by decide +kernel
theorem dX3_ofLeaf_5 : decode cX3_ofLeaf 5 = .ok (.iload_n 2, 1) := by decide +kernel
theorem dX3_ofLeaf_6 : decode cX3_ofLeaf 6 = .ok (.i2l, 1) := by decide +kernel
theorem dX3_ofLeaf_7 : decode cX3_ofLeaf 7 = .ok (.lconst 0, 1) := by decide +kernel
theorem dX3_ofLeaf_8 : decode cX3_ofLeaf 8 = .ok (.ldc2_w 187, 3) := by decide +kernel
theorem dX3_ofLeaf_11 : decode cX3_ofLeaf 11 = .ok (.invokestatic 30, 3) := by decide +kernel
theorem dX3_ofLeaf_14 : decode cX3_ofLeaf 14 = .ok (.ifCond .ne 7, 3) := by decide +kernel
theorem dX3_ofLeaf_17 : decode cX3_ofLeaf 17 = .ok (.iconst 1, 1) := by decide +kernel
theorem dX3_ofLeaf_18 : decode cX3_ofLeaf 18 = .ok (.goto 4, 3) := by decide +kernel
theorem dX3_ofLeaf_21 : decode cX3_ofLeaf 21 = .ok (.iconst 0, 1) := by decide +kernel
theorem dX3_ofLeaf_22 : decode cX3_ofLeaf 22 = .ok (.invokevirtual 103, 3) := by decide +kernel
theorem dX3_ofLeaf_25 : decode cX3_ofLeaf 25 = .ok (.ifCond .eq 7, 3) := by decide +kernel
theorem dX3_ofLeaf_28 : decode cX3_ofLeaf 28 = .ok (.iconst 0, 1) := by decide +kernel
theorem dX3_ofLeaf_29 : decode cX3_ofLeaf 29 = .ok (.goto 9, 3) := by decide +kernel
theorem dX3_ofLeaf_32 : decode cX3_ofLeaf 32 = .ok (.aload_n 0, 1) := by decide +kernel
theorem dX3_ofLeaf_33 : decode cX3_ofLeaf 33 = .ok (.iload_n 1, 1) := by decide +kernel
theorem dX3_ofLeaf_34 : decode cX3_ofLeaf 34 = .ok (.iload_n 2, 1) := by decide +kernel
theorem dX3_ofLeaf_35 : decode cX3_ofLeaf 35 = .ok (.invokevirtual 189, 3) := by decide +kernel
theorem dX3_ofLeaf_38 : decode cX3_ofLeaf 38 = .ok (.ireturn, 1) := by decide +kernel
theorem dX3_count_0 : decode cX3_count 0 = .ok (.aload_n 0, 1) := by decide +kernel
theorem dX3_count_1 : decode cX3_count 1 = .ok (.iload_n 1, 1) := by decide +kernel
theorem dX3_count_2 : decode cX3_count 2 = .ok (.invokestatic 96, 3) := by decide +kernel
theorem dX3_count_5 : decode cX3_count 5 = .ok (.iconst 0, 1) := by decide +kernel
theorem dX3_count_6 : decode cX3_count 6 = .ok (.invokevirtual 103, 3) := by decide +kernel
theorem dX3_count_9 : decode cX3_count 9 = .ok (.ifCond .eq 8, 3) := by decide +kernel
theorem dX3_count_12 : decode cX3_count 12 = .ok (.ldc 192, 2) := by decide +kernel
theorem dX3_count_14 : decode cX3_count 14 = .ok (.goto 30, 3) := by decide +kernel
theorem dX3_count_17 : decode cX3_count 17 = .ok (.new 194, 3) := by decide +kernel
theorem dX3_count_20 : decode cX3_count 20 = .ok (.dup, 1) := by decide +kernel
theorem dX3_count_21 : decode cX3_count 21 = .ok (.invokespecial 196, 3) := by decide +kernel
theorem dX3_count_24 : decode cX3_count 24 = .ok (.ldc 192, 2) := by decide +kernel
theorem dX3_count_26 : decode cX3_count 26 = .ok (.invokevirtual 197, 3) := by decide +kernel
theorem dX3_count_29 : decode cX3_count 29 = .ok (.aload_n 0, 1) := by decide +kernel
theorem dX3_count_30 : decode cX3_count 30 = .ok (.getfield 9, 3) := by decide +kernel
theorem dX3_count_33 : decode cX3_count 33 = .ok (.iload_n 1, 1) := by decide +kernel
theorem dX3_count_34 : decode cX3_count 34 = .ok (.aaload, 1) := by decide +kernel
theorem dX3_count_35 : decode cX3_count 35 = .ok (.invokestatic 110, 3) := by decide +kernel
theorem dX3_count_38 : decode cX3_count 38 = .ok (.invokevirtual 201, 3) := by decide +kernel
theorem dX3_count_41 : decode cX3_count 41 = .ok (.invokevirtual 204, 3) := by decide +kernel
theorem dX3_count_44 : decode cX3_count 44 = .ok (.areturn, 1) := by decide +kernel
theorem dX3_hasDay_0 : decode cX3_hasDay 0 = .ok (.aload_n 0, 1) := by decide +kernel
theorem dX3_hasDay_1 : decode cX3_hasDay 1 = .ok (.iload_n 1, 1) := by decide +kernel
theorem dX3_hasDay_2 : decode cX3_hasDay 2 = .ok (.invokestatic 96, 3) := by decide +kernel
theorem dX3_hasDay_5 : decode cX3_hasDay 5 = .ok (.iconst 0, 1) := by decide +kernel
theorem dX3_hasDay_6 : decode cX3_hasDay 6 = .ok (.invokevirtual 103, 3) := by decide +kernel
theorem dX3_hasDay_9 : decode cX3_hasDay 9 = .ok (.ifCond .ne 22, 3) := by decide +kernel
theorem dX3_hasDay_12 : decode cX3_hasDay 12 = .ok (.iload_n 2, 1) := by decide +kernel
theorem dX3_hasDay_13 : decode cX3_hasDay 13 = .ok (.i2l, 1) := by decide +kernel
theorem dX3_hasDay_14 : decode cX3_hasDay 14 = .ok (.lconst 1, 1) := by decide +kernel
theorem dX3_hasDay_15 : decode cX3_hasDay 15 = .ok (.aload_n 0, 1) := by decide +kernel
theorem dX3_hasDay_16 : decode cX3_hasDay 16 = .ok (.iload_n 1, 1) := by decide +kernel
theorem dX3_hasDay_17 : decode cX3_hasDay 17 = .ok (.invokevirtual 86, 3) := by decide +kernel
theorem dX3_hasDay_20 : decode cX3_hasDay 20 = .ok (.i2l, 1) := by decide +kernel
theorem dX3_hasDay_21 : decode cX3_hasDay 21 = .ok (.invokestatic 30, 3) := by decide +kernel
theorem dX3_hasDay_24 : decode cX3_hasDay 24 = .ok (.ifCond .eq 7, 3) := by decide +kernel
theorem dX3_hasDay_27 : decode cX3_hasDay 27 = .ok (.iconst 1, 1) := by decide +kernel
theorem dX3_hasDay_28 : decode cX3_hasDay 28 = .ok (.goto 4, 3) := by decide +kernel
theorem dX3_hasDay_31 : decode cX3_hasDay 31 = .ok (.iconst 0, 1) := by decide +kernel
theorem dX3_hasDay_32 : decode cX3_hasDay 32 = .ok (.ireturn, 1) := by decide +kernel
theorem dX3_order_0 : decode cX3_order 0 = .ok (.lload_n 0, 1) := by decide +kernel
theorem dX3_order_1 : decode cX3_order 1 = .ok (.lload_n 2, 1) := by decide +kernel
theorem dX3_order_2 : decode cX3_order 2 = .ok (.lcmp, 1) := by decide +kernel
theorem dX3_order_3 : decode cX3_order 3 = .ok (.ifCond .ge 7, 3) := by decide +kernel
theorem dX3_order_6 : decode cX3_order 6 = .ok (.iconst (-1), 1) := by decide +kernel
theorem dX3_order_7 : decode cX3_order 7 = .ok (.goto 17, 3) := by decide +kernel
theorem dX3_order_10 : decode cX3_order 10 = .ok (.lload_n 0, 1) := by decide +kernel
theorem dX3_order_11 : decode cX3_order 11 = .ok (.lload_n 2, 1) := by decide +kernel
theorem dX3_order_12 : decode cX3_order 12 = .ok (.lcmp, 1) := by decide +kernel
theorem dX3_order_13 : decode cX3_order 13 = .ok (.ifCond .le 7, 3) := by decide +kernel
theorem dX3_order_16 : decode cX3_order 16 = .ok (.iconst 1, 1) := by decide +kernel
theorem dX3_order_17 : decode cX3_order 17 = .ok (.goto 4, 3) := by decide +kernel
theorem dX3_order_20 : decode cX3_order 20 = .ok (.iconst 0, 1) := by decide +kernel
theorem dX3_order_21 : decode cX3_order 21 = .ok (.invokestatic 78, 3) := by decide +kernel
theorem dX3_order_24 : decode cX3_order 24 = .ok (.istore 5, 2) := by decide +kernel
theorem dX3_order_26 : decode cX3_order 26 = .ok (.iload 4, 2) := by decide +kernel
theorem dX3_order_28 : decode cX3_order 28 = .ok (.ifCond .ne 8, 3) := by decide +kernel
theorem dX3_order_31 : decode cX3_order 31 = .ok (.iload 5, 2) := by decide +kernel
theorem dX3_order_33 : decode cX3_order 33 = .ok (.goto 35, 3) := by decide +kernel
theorem dX3_order_36 : decode cX3_order 36 = .ok (.iload 4, 2) := by decide +kernel
theorem dX3_order_38 : decode cX3_order 38 = .ok (.iconst 1, 1) := by decide +kernel
theorem dX3_order_39 : decode cX3_order 39 = .ok (.if_icmp .ne 16, 3) := by decide +kernel
theorem dX3_order_42 : decode cX3_order 42 = .ok (.iload 5, 2) := by decide +kernel
theorem dX3_order_44 : decode cX3_order 44 = .ok (.ifCond .ge 7, 3) := by decide +kernel
theorem dX3_order_47 : decode cX3_order 47 = .ok (.iconst 1, 1) := by decide +kernel
theorem dX3_order_48 : decode cX3_order 48 = .ok (.goto 17, 3) := by decide +kernel
theorem dX3_order_51 : decode cX3_order 51 = .ok (.iconst 0, 1) := by decide +kernel
theorem dX3_order_52 : decode cX3_order 52 = .ok (.goto 13, 3) := by decide +kernel
theorem dX3_order_55 : decode cX3_order 55 = .ok (.iload 5, 2) := by decide +kernel
theorem dX3_order_57 : decode cX3_order 57 = .ok (.ifCond .le 7, 3) := by decide +kernel
theorem dX3_order_60 : decode cX3_order 60 = .ok (.iconst 1, 1) := by decide +kernel
theorem dX3_order_61 : decode cX3_order 61 = .ok (.goto 4, 3) := by decide +kernel
theorem dX3_order_64 : decode cX3_order 64 = .ok (.iconst 0, 1) := by decide +kernel
theorem dX3_order_65 : decode cX3_order 65 = .ok (.invokestatic 78, 3) := by decide +kernel
theorem dX3_order_68 : decode cX3_order 68 = .ok (.ireturn, 1) := by decide +kernel
theorem dX3_isNoOrder_0 : decode cX3_isNoOrder 0 = .ok (.iload_n 0, 1) := by decide +kernel
theorem dX3_isNoOrder_1 : decode cX3_isNoOrder 1 = .ok (.i2l, 1) := by decide +kernel
theorem dX3_isNoOrder_2 : decode cX3_isNoOrder 2 = .ok (.lconst 0, 1) := by decide +kernel
theorem dX3_isNoOrder_3 : decode cX3_isNoOrder 3 = .ok (.ldc2_w 155, 3) := by decide +kernel
theorem dX3_isNoOrder_6 : decode cX3_isNoOrder 6 = .ok (.invokestatic 30, 3) := by decide +kernel
theorem dX3_isNoOrder_9 : decode cX3_isNoOrder 9 = .ok (.ifCond .ne 7, 3) := by decide +kernel
theorem dX3_isNoOrder_12 : decode cX3_isNoOrder 12 = .ok (.iconst 1, 1) := by decide +kernel
theorem dX3_isNoOrder_13 : decode cX3_isNoOrder 13 = .ok (.goto 4, 3) := by decide +kernel
theorem dX3_isNoOrder_16 : decode cX3_isNoOrder 16 = .ok (.iconst 0, 1) := by decide +kernel
theorem dX3_isNoOrder_17 : decode cX3_isNoOrder 17 = .ok (.ireturn, 1) := by decide +kernel
theorem dX3_leafOrder_0 : decode cX3_leafOrder 0 = .ok (.aload_n 0, 1) := by decide +kernel
theorem dX3_leafOrder_1 : decode cX3_leafOrder 1 = .ok (.iload_n 1, 1) := by decide +kernel
theorem dX3_leafOrder_2 : decode cX3_leafOrder 2 = .ok (.invokestatic 96, 3) := by decide +kernel
theorem dX3_leafOrder_5 : decode cX3_leafOrder 5 = .ok (.ifCond .ne 10, 3) := by decide +kernel
theorem dX3_leafOrder_8 : decode cX3_leafOrder 8 = .ok (.iload_n 2, 1) := by decide +kernel
theorem dX3_leafOrder_9 : decode cX3_leafOrder 9 = .ok (.invokestatic 96, 3) := by decide +kernel
theorem dX3_leafOrder_12 : decode cX3_leafOrder 12 = .ok (.ifCond .eq 7, 3) := by decide +kernel
theorem dX3_leafOrder_15 : decode cX3_leafOrder 15 = .ok (.iconst 1, 1) := by decide +kernel
theorem dX3_leafOrder_16 : decode cX3_leafOrder 16 = .ok (.goto 4, 3) := by decide +kernel
theorem dX3_leafOrder_19 : decode cX3_leafOrder 19 = .ok (.iconst 0, 1) := by decide +kernel
theorem dX3_leafOrder_20 : decode cX3_leafOrder 20 = .ok (.iload_n 3, 1) := by decide +kernel
theorem dX3_leafOrder_21 : decode cX3_leafOrder 21 = .ok (.invokestatic 208, 3) := by decide +kernel
theorem dX3_leafOrder_24 : decode cX3_leafOrder 24 = .ok (.invokevirtual 103, 3) := by decide +kernel
theorem dX3_leafOrder_27 : decode cX3_leafOrder 27 = .ok (.ifCond .eq 7, 3) := by decide +kernel
theorem dX3_leafOrder_30 : decode cX3_leafOrder 30 = .ok (.iconst 0, 1) := by decide +kernel
theorem dX3_leafOrder_31 : decode cX3_leafOrder 31 = .ok (.goto 25, 3) := by decide +kernel
theorem dX3_leafOrder_34 : decode cX3_leafOrder 34 = .ok (.aload_n 0, 1) := by decide +kernel
theorem dX3_leafOrder_35 : decode cX3_leafOrder 35 = .ok (.getfield 9, 3) := by decide +kernel
theorem dX3_leafOrder_38 : decode cX3_leafOrder 38 = .ok (.iload_n 1, 1) := by decide +kernel
theorem dX3_leafOrder_39 : decode cX3_leafOrder 39 = .ok (.aaload, 1) := by decide +kernel
theorem dX3_leafOrder_40 : decode cX3_leafOrder 40 = .ok (.invokestatic 110, 3) := by decide +kernel
theorem dX3_leafOrder_43 : decode cX3_leafOrder 43 = .ok (.aload_n 0, 1) := by decide +kernel
theorem dX3_leafOrder_44 : decode cX3_leafOrder 44 = .ok (.getfield 9, 3) := by decide +kernel
theorem dX3_leafOrder_47 : decode cX3_leafOrder 47 = .ok (.iload_n 2, 1) := by decide +kernel
theorem dX3_leafOrder_48 : decode cX3_leafOrder 48 = .ok (.aaload, 1) := by decide +kernel
theorem dX3_leafOrder_49 : decode cX3_leafOrder 49 = .ok (.invokestatic 110, 3) := by decide +kernel
theorem dX3_leafOrder_52 : decode cX3_leafOrder 52 = .ok (.iload_n 3, 1) := by decide +kernel
theorem dX3_leafOrder_53 : decode cX3_leafOrder 53 = .ok (.invokestatic 211, 3) := by decide +kernel
theorem dX3_leafOrder_56 : decode cX3_leafOrder 56 = .ok (.ireturn, 1) := by decide +kernel
theorem dX3_failsSame_0 : decode cX3_failsSame 0 = .ok (.aload_n 0, 1) := by decide +kernel
theorem dX3_failsSame_1 : decode cX3_failsSame 1 = .ok (.iload_n 1, 1) := by decide +kernel
theorem dX3_failsSame_2 : decode cX3_failsSame 2 = .ok (.invokestatic 96, 3) := by decide +kernel
theorem dX3_failsSame_5 : decode cX3_failsSame 5 = .ok (.ifCond .ne 10, 3) := by decide +kernel
theorem dX3_failsSame_8 : decode cX3_failsSame 8 = .ok (.iload_n 3, 1) := by decide +kernel
theorem dX3_failsSame_9 : decode cX3_failsSame 9 = .ok (.invokestatic 96, 3) := by decide +kernel
theorem dX3_failsSame_12 : decode cX3_failsSame 12 = .ok (.ifCond .eq 7, 3) := by decide +kernel
theorem dX3_failsSame_15 : decode cX3_failsSame 15 = .ok (.iconst 1, 1) := by decide +kernel
theorem dX3_failsSame_16 : decode cX3_failsSame 16 = .ok (.goto 4, 3) := by decide +kernel
theorem dX3_failsSame_19 : decode cX3_failsSame 19 = .ok (.iconst 0, 1) := by decide +kernel
theorem dX3_failsSame_20 : decode cX3_failsSame 20 = .ok (.iload_n 2, 1) := by decide +kernel
theorem dX3_failsSame_21 : decode cX3_failsSame 21 = .ok (.i2l, 1) := by decide +kernel
theorem dX3_failsSame_22 : decode cX3_failsSame 22 = .ok (.lconst 0, 1) := by decide +kernel
theorem dX3_failsSame_23 : decode cX3_failsSame 23 = .ok (.ldc2_w 121, 3) := by decide +kernel
theorem dX3_failsSame_26 : decode cX3_failsSame 26 = .ok (.invokestatic 30, 3) := by decide +kernel
theorem dX3_failsSame_29 : decode cX3_failsSame 29 = .ok (.ifCond .ne 7, 3) := by decide +kernel
theorem dX3_failsSame_32 : decode cX3_failsSame 32 = .ok (.iconst 1, 1) := by decide +kernel
theorem dX3_failsSame_33 : decode cX3_failsSame 33 = .ok (.goto 4, 3) := by decide +kernel
theorem dX3_failsSame_36 : decode cX3_failsSame 36 = .ok (.iconst 0, 1) := by decide +kernel
theorem dX3_failsSame_37 : decode cX3_failsSame 37 = .ok (.invokevirtual 103, 3) := by decide +kernel
theorem dX3_failsSame_40 : decode cX3_failsSame 40 = .ok (.ireturn, 1) := by decide +kernel
theorem dX3_isLeaf_0 : decode cX3_isLeaf 0 = .ok (.aload_n 0, 1) := by decide +kernel
theorem dX3_isLeaf_1 : decode cX3_isLeaf 1 = .ok (.iload_n 1, 1) := by decide +kernel
theorem dX3_isLeaf_2 : decode cX3_isLeaf 2 = .ok (.iload_n 2, 1) := by decide +kernel
theorem dX3_isLeaf_3 : decode cX3_isLeaf 3 = .ok (.iload_n 3, 1) := by decide +kernel
theorem dX3_isLeaf_4 : decode cX3_isLeaf 4 = .ok (.invokevirtual 215, 3) := by decide +kernel
theorem dX3_isLeaf_7 : decode cX3_isLeaf 7 = .ok (.ifCond .ne 29, 3) := by decide +kernel
theorem dX3_isLeaf_10 : decode cX3_isLeaf 10 = .ok (.iload_n 2, 1) := by decide +kernel
theorem dX3_isLeaf_11 : decode cX3_isLeaf 11 = .ok (.ifCond .ne 25, 3) := by decide +kernel
theorem dX3_isLeaf_14 : decode cX3_isLeaf 14 = .ok (.aload_n 0, 1) := by decide +kernel
theorem dX3_isLeaf_15 : decode cX3_isLeaf 15 = .ok (.getfield 9, 3) := by decide +kernel
theorem dX3_isLeaf_18 : decode cX3_isLeaf 18 = .ok (.iload_n 1, 1) := by decide +kernel
theorem dX3_isLeaf_19 : decode cX3_isLeaf 19 = .ok (.aaload, 1) := by decide +kernel
theorem dX3_isLeaf_20 : decode cX3_isLeaf 20 = .ok (.aload_n 0, 1) := by decide +kernel
theorem dX3_isLeaf_21 : decode cX3_isLeaf 21 = .ok (.getfield 9, 3) := by decide +kernel
theorem dX3_isLeaf_24 : decode cX3_isLeaf 24 = .ok (.iload_n 3, 1) := by decide +kernel
theorem dX3_isLeaf_25 : decode cX3_isLeaf 25 = .ok (.aaload, 1) := by decide +kernel
theorem dX3_isLeaf_26 : decode cX3_isLeaf 26 = .ok (.invokestatic 144, 3) := by decide +kernel
theorem dX3_isLeaf_29 : decode cX3_isLeaf 29 = .ok (.ifCond .eq 7, 3) := by decide +kernel
theorem dX3_isLeaf_32 : decode cX3_isLeaf 32 = .ok (.iconst 1, 1) := by decide +kernel
theorem dX3_isLeaf_33 : decode cX3_isLeaf 33 = .ok (.goto 4, 3) := by decide +kernel
theorem dX3_isLeaf_36 : decode cX3_isLeaf 36 = .ok (.iconst 0, 1) := by decide +kernel
theorem dX3_isLeaf_37 : decode cX3_isLeaf 37 = .ok (.ireturn, 1) := by decide +kernel
theorem dX3_leafToNow_0 : decode cX3_leafToNow 0 = .ok (.new 194, 3) := by decide +kernel
theorem dX3_leafToNow_3 : decode cX3_leafToNow 3 = .ok (.dup, 1) := by decide +kernel
theorem dX3_leafToNow_4 : decode cX3_leafToNow 4 = .ok (.invokespecial 196, 3) := by decide +kernel
theorem dX3_leafToNow_7 : decode cX3_leafToNow 7 = .ok (.ldc 192, 2) := by decide +kernel
theorem dX3_leafToNow_9 : decode cX3_leafToNow 9 = .ok (.invokevirtual 197, 3) := by decide +kernel
theorem dX3_leafToNow_12 : decode cX3_leafToNow 12 = .ok (.aload_n 0, 1) := by decide +kernel
theorem dX3_leafToNow_13 : decode cX3_leafToNow 13 = .ok (.getfield 9, 3) := by decide +kernel
theorem dX3_leafToNow_16 : decode cX3_leafToNow 16 = .ok (.iload_n 2, 1) := by decide +kernel
theorem dX3_leafToNow_17 : decode cX3_leafToNow 17 = .ok (.aaload, 1) := by decide +kernel
theorem dX3_leafToNow_18 : decode cX3_leafToNow 18 = .ok (.invokestatic 110, 3) := by decide +kernel
theorem dX3_leafToNow_21 : decode cX3_leafToNow 21 = .ok (.aload_n 0, 1) := by decide +kernel
theorem dX3_leafToNow_22 : decode cX3_leafToNow 22 = .ok (.getfield 9, 3) := by decide +kernel
theorem dX3_leafToNow_25 : decode cX3_leafToNow 25 = .ok (.iload_n 1, 1) := by decide +kernel
theorem dX3_leafToNow_26 : decode cX3_leafToNow 26 = .ok (.aaload, 1) := by decide +kernel
theorem dX3_leafToNow_27 : decode cX3_leafToNow 27 = .ok (.invokestatic 110, 3) := by decide +kernel
theorem dX3_leafToNow_30 : decode cX3_leafToNow 30 = .ok (.lsub, 1) := by decide +kernel
theorem dX3_leafToNow_31 : decode cX3_leafToNow 31 = .ok (.getstatic 123, 3) := by decide +kernel
theorem dX3_leafToNow_34 : decode cX3_leafToNow 34 = .ok (.iload_n 3, 1) := by decide +kernel
theorem dX3_leafToNow_35 : decode cX3_leafToNow 35 = .ok (.iaload, 1) := by decide +kernel
theorem dX3_leafToNow_36 : decode cX3_leafToNow 36 = .ok (.i2l, 1) := by decide +kernel
theorem dX3_leafToNow_37 : decode cX3_leafToNow 37 = .ok (.ldiv, 1) := by decide +kernel
theorem dX3_leafToNow_38 : decode cX3_leafToNow 38 = .ok (.invokevirtual 201, 3) := by decide +kernel
theorem dX3_leafToNow_41 : decode cX3_leafToNow 41 = .ok (.invokevirtual 204, 3) := by decide +kernel
theorem dX3_leafToNow_44 : decode cX3_leafToNow 44 = .ok (.areturn, 1) := by decide +kernel
theorem dX3_leafTo_0 : decode cX3_leafTo 0 = .ok (.aload_n 0, 1) := by decide +kernel
theorem dX3_leafTo_1 : decode cX3_leafTo 1 = .ok (.iload_n 1, 1) := by decide +kernel
theorem dX3_leafTo_2 : decode cX3_leafTo 2 = .ok (.invokestatic 96, 3) := by decide +kernel
theorem dX3_leafTo_5 : decode cX3_leafTo 5 = .ok (.ifCond .ne 10, 3) := by decide +kernel
theorem dX3_leafTo_8 : decode cX3_leafTo 8 = .ok (.iload_n 2, 1) := by decide +kernel
