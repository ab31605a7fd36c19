theorem dX3_leafTo_9 : decode cX3_leafTo 9 = .ok (.invokestatic 96, 3) := by decide +kernel
theorem dX3_leafTo_12 : decode cX3_leafTo 12 = .ok (.ifCond .eq 7, 3) := by decide +kernel
theorem dX3_leafTo_15 : decode cX3_leafTo 15 = .ok (.iconst 1, 1) := by decide +kernel
theorem dX3_leafTo_16 : decode cX3_leafTo 16 = .ok (.goto 4, 3) := by decide +kernel
theorem dX3_leafTo_19 : decode cX3_leafTo 19 = .ok (.iconst 0, 1) := by decide +kernel
theorem dX3_leafTo_20 : decode cX3_leafTo 20 = .ok (.iload_n 3, 1) := by decide +kernel
theorem dX3_leafTo_21 : decode cX3_leafTo 21 = .ok (.i2l, 1) := by decide +kernel
theorem dX3_leafTo_22 : decode cX3_leafTo 22 = .ok (.lconst 0, 1) := by decide +kernel
theorem dX3_leafTo_23 : decode cX3_leafTo 23 = .ok (.ldc2_w 121, 3) := by decide +kernel
theorem dX3_leafTo_26 : decode cX3_leafTo 26 = .ok (.invokestatic 30, 3) := by decide +kernel
theorem dX3_leafTo_29 : decode cX3_leafTo 29 = .ok (.ifCond .ne 7, 3) := by decide +kernel
theorem dX3_leafTo_32 : decode cX3_leafTo 32 = .ok (.iconst 1, 1) := by decide +kernel
theorem dX3_leafTo_33 : decode cX3_leafTo 33 = .ok (.goto 4, 3) := by decide +kernel
theorem dX3_leafTo_36 : decode cX3_leafTo 36 = .ok (.iconst 0, 1) := by decide +kernel
theorem dX3_leafTo_37 : decode cX3_leafTo 37 = .ok (.invokevirtual 103, 3) := by decide +kernel
theorem dX3_leafTo_40 : decode cX3_leafTo 40 = .ok (.ifCond .eq 8, 3) := by decide +kernel
theorem dX3_leafTo_43 : decode cX3_leafTo 43 = .ok (.ldc 192, 2) := by decide +kernel
theorem dX3_leafTo_45 : decode cX3_leafTo 45 = .ok (.goto 10, 3) := by decide +kernel
theorem dX3_leafTo_48 : decode cX3_leafTo 48 = .ok (.aload_n 0, 1) := by decide +kernel
theorem dX3_leafTo_49 : decode cX3_leafTo 49 = .ok (.iload_n 1, 1) := by decide +kernel
theorem dX3_leafTo_50 : decode cX3_leafTo 50 = .ok (.iload_n 2, 1) := by decide +kernel
theorem dX3_leafTo_51 : decode cX3_leafTo 51 = .ok (.iload_n 3, 1) := by decide +kernel
theorem dX3_leafTo_52 : decode cX3_leafTo 52 = .ok (.invokevirtual 218, 3) := by decide +kernel
theorem dX3_leafTo_55 : decode cX3_leafTo 55 = .ok (.areturn, 1) := by decide +kernel
theorem dX3_yearTold_0 : decode cX3_yearTold 0 = .ok (.aload_n 0, 1) := by decide +kernel
theorem dX3_yearTold_1 : decode cX3_yearTold 1 = .ok (.getfield 15, 3) := by decide +kernel
theorem dX3_yearTold_4 : decode cX3_yearTold 4 = .ok (.iload_n 1, 1) := by decide +kernel
theorem dX3_yearTold_5 : decode cX3_yearTold 5 = .ok (.iaload, 1) := by decide +kernel
theorem dX3_yearTold_6 : decode cX3_yearTold 6 = .ok (.istore_n 3, 1) := by decide +kernel
theorem dX3_yearTold_7 : decode cX3_yearTold 7 = .ok (.iconst 5, 1) := by decide +kernel
theorem dX3_yearTold_8 : decode cX3_yearTold 8 = .ok (.newarray .int, 2) := by decide +kernel
theorem dX3_yearTold_10 : decode cX3_yearTold 10 = .ok (.dup, 1) := by decide +kernel
theorem dX3_yearTold_11 : decode cX3_yearTold 11 = .ok (.iconst 0, 1) := by decide +kernel
theorem dX3_yearTold_12 : decode cX3_yearTold 12 = .ok (.iload_n 3, 1) := by decide +kernel
theorem dX3_yearTold_13 : decode cX3_yearTold 13 = .ok (.iastore, 1) := by decide +kernel
theorem dX3_yearTold_14 : decode cX3_yearTold 14 = .ok (.dup, 1) := by decide +kernel
theorem dX3_yearTold_15 : decode cX3_yearTold 15 = .ok (.iconst 1, 1) := by decide +kernel
theorem dX3_yearTold_16 : decode cX3_yearTold 16 = .ok (.iload_n 3, 1) := by decide +kernel
theorem dX3_yearTold_17 : decode cX3_yearTold 17 = .ok (.i2l, 1) := by decide +kernel
theorem dX3_yearTold_18 : decode cX3_yearTold 18 = .ok (.invokestatic 44, 3) := by decide +kernel
theorem dX3_yearTold_21 : decode cX3_yearTold 21 = .ok (.invokestatic 78, 3) := by decide +kernel
theorem dX3_yearTold_24 : decode cX3_yearTold 24 = .ok (.iastore, 1) := by decide +kernel
theorem dX3_yearTold_25 : decode cX3_yearTold 25 = .ok (.dup, 1) := by decide +kernel
theorem dX3_yearTold_26 : decode cX3_yearTold 26 = .ok (.iconst 2, 1) := by decide +kernel
theorem dX3_yearTold_27 : decode cX3_yearTold 27 = .ok (.iload_n 3, 1) := by decide +kernel
theorem dX3_yearTold_28 : decode cX3_yearTold 28 = .ok (.i2l, 1) := by decide +kernel
theorem dX3_yearTold_29 : decode cX3_yearTold 29 = .ok (.invokestatic 148, 3) := by decide +kernel
theorem dX3_yearTold_32 : decode cX3_yearTold 32 = .ok (.iastore, 1) := by decide +kernel
theorem dX3_yearTold_33 : decode cX3_yearTold 33 = .ok (.dup, 1) := by decide +kernel
theorem dX3_yearTold_34 : decode cX3_yearTold 34 = .ok (.iconst 3, 1) := by decide +kernel
theorem dX3_yearTold_35 : decode cX3_yearTold 35 = .ok (.iload_n 3, 1) := by decide +kernel
theorem dX3_yearTold_36 : decode cX3_yearTold 36 = .ok (.invokestatic 141, 3) := by decide +kernel
theorem dX3_yearTold_39 : decode cX3_yearTold 39 = .ok (.iastore, 1) := by decide +kernel
theorem dX3_yearTold_40 : decode cX3_yearTold 40 = .ok (.dup, 1) := by decide +kernel
theorem dX3_yearTold_41 : decode cX3_yearTold 41 = .ok (.iconst 4, 1) := by decide +kernel
theorem dX3_yearTold_42 : decode cX3_yearTold 42 = .ok (.iload_n 3, 1) := by decide +kernel
theorem dX3_yearTold_43 : decode cX3_yearTold 43 = .ok (.invokestatic 134, 3) := by decide +kernel
theorem dX3_yearTold_46 : decode cX3_yearTold 46 = .ok (.iastore, 1) := by decide +kernel
theorem dX3_yearTold_47 : decode cX3_yearTold 47 = .ok (.astore 4, 2) := by decide +kernel
theorem dX3_yearTold_49 : decode cX3_yearTold 49 = .ok (.aload 4, 2) := by decide +kernel
theorem dX3_yearTold_51 : decode cX3_yearTold 51 = .ok (.iload_n 2, 1) := by decide +kernel
theorem dX3_yearTold_52 : decode cX3_yearTold 52 = .ok (.iaload, 1) := by decide +kernel
theorem dX3_yearTold_53 : decode cX3_yearTold 53 = .ok (.ireturn, 1) := by decide +kernel
theorem dX3_ofYear_0 : decode cX3_ofYear 0 = .ok (.aload_n 0, 1) := by decide +kernel
theorem dX3_ofYear_1 : decode cX3_ofYear 1 = .ok (.iload_n 1, 1) := by decide +kernel
theorem dX3_ofYear_2 : decode cX3_ofYear 2 = .ok (.invokestatic 96, 3) := by decide +kernel
theorem dX3_ofYear_5 : decode cX3_ofYear 5 = .ok (.iload_n 2, 1) := by decide +kernel
theorem dX3_ofYear_6 : decode cX3_ofYear 6 = .ok (.i2l, 1) := by decide +kernel
theorem dX3_ofYear_7 : decode cX3_ofYear 7 = .ok (.lconst 0, 1) := by decide +kernel
theorem dX3_ofYear_8 : decode cX3_ofYear 8 = .ok (.ldc2_w 121, 3) := by decide +kernel
theorem dX3_ofYear_11 : decode cX3_ofYear 11 = .ok (.invokestatic 30, 3) := by decide +kernel
theorem dX3_ofYear_14 : decode cX3_ofYear 14 = .ok (.ifCond .ne 7, 3) := by decide +kernel
theorem dX3_ofYear_17 : decode cX3_ofYear 17 = .ok (.iconst 1, 1) := by decide +kernel
theorem dX3_ofYear_18 : decode cX3_ofYear 18 = .ok (.goto 4, 3) := by decide +kernel
theorem dX3_ofYear_21 : decode cX3_ofYear 21 = .ok (.iconst 0, 1) := by decide +kernel
theorem dX3_ofYear_22 : decode cX3_ofYear 22 = .ok (.invokevirtual 103, 3) := by decide +kernel
theorem dX3_ofYear_25 : decode cX3_ofYear 25 = .ok (.ifCond .eq 7, 3) := by decide +kernel
theorem dX3_ofYear_28 : decode cX3_ofYear 28 = .ok (.iconst 0, 1) := by decide +kernel
theorem dX3_ofYear_29 : decode cX3_ofYear 29 = .ok (.goto 9, 3) := by decide +kernel
theorem dX3_ofYear_32 : decode cX3_ofYear 32 = .ok (.aload_n 0, 1) := by decide +kernel
theorem dX3_ofYear_33 : decode cX3_ofYear 33 = .ok (.iload_n 1, 1) := by decide +kernel
theorem dX3_ofYear_34 : decode cX3_ofYear 34 = .ok (.iload_n 2, 1) := by decide +kernel
theorem dX3_ofYear_35 : decode cX3_ofYear 35 = .ok (.invokevirtual 222, 3) := by decide +kernel
theorem dX3_ofYear_38 : decode cX3_ofYear 38 = .ok (.ireturn, 1) := by decide +kernel
theorem dX3_isLeap_0 : decode cX3_isLeap 0 = .ok (.aload_n 0, 1) := by decide +kernel
theorem dX3_isLeap_1 : decode cX3_isLeap 1 = .ok (.iconst 0, 1) := by decide +kernel
theorem dX3_isLeap_2 : decode cX3_isLeap 2 = .ok (.putfield 24, 3) := by decide +kernel
theorem dX3_isLeap_5 : decode cX3_isLeap 5 = .ok (.iload_n 1, 1) := by decide +kernel
theorem dX3_isLeap_6 : decode cX3_isLeap 6 = .ok (.i2l, 1) := by decide +kernel
theorem dX3_isLeap_7 : decode cX3_isLeap 7 = .ok (.iload_n 2, 1) := by decide +kernel
theorem dX3_isLeap_8 : decode cX3_isLeap 8 = .ok (.i2l, 1) := by decide +kernel
theorem dX3_isLeap_9 : decode cX3_isLeap 9 = .ok (.lmul, 1) := by decide +kernel
theorem dX3_isLeap_10 : decode cX3_isLeap 10 = .ok (.invokestatic 44, 3) := by decide +kernel
theorem dX3_isLeap_13 : decode cX3_isLeap 13 = .ok (.ireturn, 1) := by decide +kernel
theorem dX3_hasFeast_0 : decode cX3_hasFeast 0 = .ok (.aload_n 0, 1) := by decide +kernel
theorem dX3_hasFeast_1 : decode cX3_hasFeast 1 = .ok (.iload_n 1, 1) := by decide +kernel
theorem dX3_hasFeast_2 : decode cX3_hasFeast 2 = .ok (.invokestatic 96, 3) := by decide +kernel
theorem dX3_hasFeast_5 : decode cX3_hasFeast 5 = .ok (.ifCond .ne 10, 3) := by decide +kernel
theorem dX3_hasFeast_8 : decode cX3_hasFeast 8 = .ok (.iload_n 2, 1) := by decide +kernel
theorem dX3_hasFeast_9 : decode cX3_hasFeast 9 = .ok (.invokestatic 96, 3) := by decide +kernel
theorem dX3_hasFeast_12 : decode cX3_hasFeast 12 = .ok (.ifCond .eq 7, 3) := by decide +kernel
theorem dX3_hasFeast_15 : decode cX3_hasFeast 15 = .ok (.iconst 1, 1) := by decide +kernel
theorem dX3_hasFeast_16 : decode cX3_hasFeast 16 = .ok (.goto 4, 3) := by decide +kernel
theorem dX3_hasFeast_19 : decode cX3_hasFeast 19 = .ok (.iconst 0, 1) := by decide +kernel
theorem dX3_hasFeast_20 : decode cX3_hasFeast 20 = .ok (.iconst 0, 1) := by decide +kernel
theorem dX3_hasFeast_21 : decode cX3_hasFeast 21 = .ok (.invokevirtual 103, 3) := by decide +kernel
theorem dX3_hasFeast_24 : decode cX3_hasFeast 24 = .ok (.ifCond .ne 30, 3) := by decide +kernel
theorem dX3_hasFeast_27 : decode cX3_hasFeast 27 = .ok (.iload_n 3, 1) := by decide +kernel
theorem dX3_hasFeast_28 : decode cX3_hasFeast 28 = .ok (.ifCond .ne 26, 3) := by decide +kernel
theorem dX3_hasFeast_31 : decode cX3_hasFeast 31 = .ok (.aload_n 0, 1) := by decide +kernel
theorem dX3_hasFeast_32 : decode cX3_hasFeast 32 = .ok (.getfield 18, 3) := by decide +kernel
theorem dX3_hasFeast_35 : decode cX3_hasFeast 35 = .ok (.iload_n 2, 1) := by decide +kernel
theorem dX3_hasFeast_36 : decode cX3_hasFeast 36 = .ok (.aaload, 1) := by decide +kernel
theorem dX3_hasFeast_37 : decode cX3_hasFeast 37 = .ok (.aload_n 0, 1) := by decide +kernel
theorem dX3_hasFeast_38 : decode cX3_hasFeast 38 = .ok (.getfield 15, 3) := by decide +kernel
theorem dX3_hasFeast_41 : decode cX3_hasFeast 41 = .ok (.iload_n 1, 1) := by decide +kernel
theorem dX3_hasFeast_42 : decode cX3_hasFeast 42 = .ok (.iaload, 1) := by decide +kernel
theorem dX3_hasFeast_43 : decode cX3_hasFeast 43 = .ok (.i2l, 1) := by decide +kernel
theorem dX3_hasFeast_44 : decode cX3_hasFeast 44 = .ok (.invokestatic 82, 3) := by decide +kernel
theorem dX3_hasFeast_47 : decode cX3_hasFeast 47 = .ok (.ifCond .eq 7, 3) := by decide +kernel
theorem dX3_hasFeast_50 : decode cX3_hasFeast 50 = .ok (.iconst 1, 1) := by decide +kernel
theorem dX3_hasFeast_51 : decode cX3_hasFeast 51 = .ok (.goto 4, 3) := by decide +kernel
theorem dX3_hasFeast_54 : decode cX3_hasFeast 54 = .ok (.iconst 0, 1) := by decide +kernel
theorem dX3_hasFeast_55 : decode cX3_hasFeast 55 = .ok (.ireturn, 1) := by decide +kernel
theorem dX3_yearOrder_0 : decode cX3_yearOrder 0 = .ok (.aload_n 0, 1) := by decide +kernel
theorem dX3_yearOrder_1 : decode cX3_yearOrder 1 = .ok (.iload_n 1, 1) := by decide +kernel
theorem dX3_yearOrder_2 : decode cX3_yearOrder 2 = .ok (.invokestatic 96, 3) := by decide +kernel
theorem dX3_yearOrder_5 : decode cX3_yearOrder 5 = .ok (.ifCond .ne 10, 3) := by decide +kernel
theorem dX3_yearOrder_8 : decode cX3_yearOrder 8 = .ok (.iload_n 2, 1) := by decide +kernel
theorem dX3_yearOrder_9 : decode cX3_yearOrder 9 = .ok (.invokestatic 96, 3) := by decide +kernel
theorem dX3_yearOrder_12 : decode cX3_yearOrder 12 = .ok (.ifCond .eq 7, 3) := by decide +kernel
theorem dX3_yearOrder_15 : decode cX3_yearOrder 15 = .ok (.iconst 1, 1) := by decide +kernel
theorem dX3_yearOrder_16 : decode cX3_yearOrder 16 = .ok (.goto 4, 3) := by decide +kernel
theorem dX3_yearOrder_19 : decode cX3_yearOrder 19 = .ok (.iconst 0, 1) := by decide +kernel
theorem dX3_yearOrder_20 : decode cX3_yearOrder 20 = .ok (.iload_n 3, 1) := by decide +kernel
theorem dX3_yearOrder_21 : decode cX3_yearOrder 21 = .ok (.invokestatic 208, 3) := by decide +kernel
theorem dX3_yearOrder_24 : decode cX3_yearOrder 24 = .ok (.invokevirtual 103, 3) := by decide +kernel
theorem dX3_yearOrder_27 : decode cX3_yearOrder 27 = .ok (.ifCond .eq 7, 3) := by decide +kernel
theorem dX3_yearOrder_30 : decode cX3_yearOrder 30 = .ok (.iconst 0, 1) := by decide +kernel
theorem dX3_yearOrder_31 : decode cX3_yearOrder 31 = .ok (.goto 21, 3) := by decide +kernel
theorem dX3_yearOrder_34 : decode cX3_yearOrder 34 = .ok (.aload_n 0, 1) := by decide +kernel
theorem dX3_yearOrder_35 : decode cX3_yearOrder 35 = .ok (.getfield 15, 3) := by decide +kernel
theorem dX3_yearOrder_38 : decode cX3_yearOrder 38 = .ok (.iload_n 1, 1) := by decide +kernel
theorem dX3_yearOrder_39 : decode cX3_yearOrder 39 = .ok (.iaload, 1) := by decide +kernel
theorem dX3_yearOrder_40 : decode cX3_yearOrder 40 = .ok (.i2l, 1) := by decide +kernel
theorem dX3_yearOrder_41 : decode cX3_yearOrder 41 = .ok (.aload_n 0, 1) := by decide +kernel
theorem dX3_yearOrder_42 : decode cX3_yearOrder 42 = .ok (.getfield 15, 3) := by decide +kernel
theorem dX3_yearOrder_45 : decode cX3_yearOrder 45 = .ok (.iload_n 2, 1) := by decide +kernel
theorem dX3_yearOrder_46 : decode cX3_yearOrder 46 = .ok (.iaload, 1) := by decide +kernel
theorem dX3_yearOrder_47 : decode cX3_yearOrder 47 = .ok (.i2l, 1) := by decide +kernel
theorem dX3_yearOrder_48 : decode cX3_yearOrder 48 = .ok (.iload_n 3, 1) := by decide +kernel
theorem dX3_yearOrder_49 : decode cX3_yearOrder 49 = .ok (.invokestatic 211, 3) := by decide +kernel
theorem dX3_yearOrder_52 : decode cX3_yearOrder 52 = .ok (.ireturn, 1) := by decide +kernel
theorem dX3_isYear_0 : decode cX3_isYear 0 = .ok (.aload_n 0, 1) := by decide +kernel
theorem dX3_isYear_1 : decode cX3_isYear 1 = .ok (.iload_n 1, 1) := by decide +kernel
theorem dX3_isYear_2 : decode cX3_isYear 2 = .ok (.iload_n 2, 1) := by decide +kernel
theorem dX3_isYear_3 : decode cX3_isYear 3 = .ok (.iload_n 3, 1) := by decide +kernel
theorem dX3_isYear_4 : decode cX3_isYear 4 = .ok (.invokevirtual 215, 3) := by decide +kernel
theorem dX3_isYear_7 : decode cX3_isYear 7 = .ok (.ifCond .ne 27, 3) := by decide +kernel
theorem dX3_isYear_10 : decode cX3_isYear 10 = .ok (.iload_n 2, 1) := by decide +kernel
theorem dX3_isYear_11 : decode cX3_isYear 11 = .ok (.iconst 1, 1) := by decide +kernel
theorem dX3_isYear_12 : decode cX3_isYear 12 = .ok (.if_icmp .ne 22, 3) := by decide +kernel
theorem dX3_isYear_15 : decode cX3_isYear 15 = .ok (.aload_n 0, 1) := by decide +kernel
theorem dX3_isYear_16 : decode cX3_isYear 16 = .ok (.getfield 15, 3) := by decide +kernel
theorem dX3_isYear_19 : decode cX3_isYear 19 = .ok (.iload_n 1, 1) := by decide +kernel
theorem dX3_isYear_20 : decode cX3_isYear 20 = .ok (.iaload, 1) := by decide +kernel
theorem dX3_isYear_21 : decode cX3_isYear 21 = .ok (.aload_n 0, 1) := by decide +kernel
theorem dX3_isYear_22 : decode cX3_isYear 22 = .ok (.getfield 15, 3) := by decide +kernel
theorem dX3_isYear_25 : decode cX3_isYear 25 = .ok (.iload_n 3, 1) := by decide +kernel
theorem dX3_isYear_26 : decode cX3_isYear 26 = .ok (.iaload, 1) := by decide +kernel
theorem dX3_isYear_27 : decode cX3_isYear 27 = .ok (.if_icmp .ne 7, 3) := by decide +kernel
theorem dX3_isYear_30 : decode cX3_isYear 30 = .ok (.iconst 1, 1) := by decide +kernel
theorem dX3_isYear_31 : decode cX3_isYear 31 = .ok (.goto 4, 3) := by decide +kernel
theorem dX3_isYear_34 : decode cX3_isYear 34 = .ok (.iconst 0, 1) := by decide +kernel
theorem dX3_isYear_35 : decode cX3_isYear 35 = .ok (.ireturn, 1) := by decide +kernel
theorem dX3_yearTo_0 : decode cX3_yearTo 0 = .ok (.aload_n 0, 1) := by decide +kernel
theorem dX3_yearTo_1 : decode cX3_yearTo 1 = .ok (.iload_n 1, 1) := by decide +kernel
theorem dX3_yearTo_2 : decode cX3_yearTo 2 = .ok (.invokestatic 96, 3) := by decide +kernel
theorem dX3_yearTo_5 : decode cX3_yearTo 5 = .ok (.ifCond .ne 10, 3) := by decide +kernel
theorem dX3_yearTo_8 : decode cX3_yearTo 8 = .ok (.iload_n 2, 1) := by decide +kernel
theorem dX3_yearTo_9 : decode cX3_yearTo 9 = .ok (.invokestatic 96, 3) := by decide +kernel
theorem dX3_yearTo_12 : decode cX3_yearTo 12 = .ok (.ifCond .eq 7, 3) := by decide +kernel
theorem dX3_yearTo_15 : decode cX3_yearTo 15 = .ok (.iconst 1, 1) := by decide +kernel
theorem dX3_yearTo_16 : decode cX3_yearTo 16 = .ok (.goto 4, 3) := by decide +kernel
theorem dX3_yearTo_19 : decode cX3_yearTo 19 = .ok (.iconst 0, 1) := by decide +kernel
theorem dX3_yearTo_20 : decode cX3_yearTo 20 = .ok (.iload_n 3, 1) := by decide +kernel
theorem dX3_yearTo_21 : decode cX3_yearTo 21 = .ok (.i2l, 1) := by decide +kernel
theorem dX3_yearTo_22 : decode cX3_yearTo 22 = .ok (.lconst 1, 1) := by decide +kernel
theorem dX3_yearTo_23 : decode cX3_yearTo 23 = .ok (.ldc2_w 121, 3) := by decide +kernel
theorem dX3_yearTo_26 : decode cX3_yearTo 26 = .ok (.invokestatic 30, 3) := by decide +kernel
theorem dX3_yearTo_29 : decode cX3_yearTo 29 = .ok (.ifCond .ne 7, 3) := by decide +kernel
theorem dX3_yearTo_32 : decode cX3_yearTo 32 = .ok (.iconst 1, 1) := by decide +kernel
theorem dX3_yearTo_33 : decode cX3_yearTo 33 = .ok (.goto 4, 3) := by decide +kernel
theorem dX3_yearTo_36 : decode cX3_yearTo 36 = .ok (.iconst 0, 1) := by decide +kernel
theorem dX3_yearTo_37 : decode cX3_yearTo 37 = .ok (.invokevirtual 103, 3) := by decide +kernel
theorem dX3_yearTo_40 : decode cX3_yearTo 40 = .ok (.ifCond .eq 6, 3) := by decide +kernel
theorem dX3_yearTo_43 : decode cX3_yearTo 43 = .ok (.ldc 192, 2) := by decide +kernel
theorem dX3_yearTo_45 : decode cX3_yearTo 45 = .ok (.areturn, 1) := by decide +kernel
theorem dX3_yearTo_46 : decode cX3_yearTo 46 = .ok (.new 194, 3) := by decide +kernel
theorem dX3_yearTo_49 : decode cX3_yearTo 49 = .ok (.dup, 1) := by decide +kernel
theorem dX3_yearTo_50 : decode cX3_yearTo 50 = .ok (.invokespecial 196, 3) := by decide +kernel
theorem dX3_yearTo_53 : decode cX3_yearTo 53 = .ok (.ldc 192, 2) := by decide +kernel
theorem dX3_yearTo_55 : decode cX3_yearTo 55 = .ok (.invokevirtual 197, 3) := by decide +kernel
theorem dX3_yearTo_58 : decode cX3_yearTo 58 = .ok (.aload_n 0, 1) := by decide +kernel
theorem dX3_yearTo_59 : decode cX3_yearTo 59 = .ok (.getfield 15, 3) := by decide +kernel
theorem dX3_yearTo_62 : decode cX3_yearTo 62 = .ok (.iload_n 2, 1) := by decide +kernel
theorem dX3_yearTo_63 : decode cX3_yearTo 63 = .ok (.iaload, 1) := by decide +kernel
theorem dX3_yearTo_64 : decode cX3_yearTo 64 = .ok (.i2l, 1) := by decide +kernel
theorem dX3_yearTo_65 : decode cX3_yearTo 65 = .ok (.aload_n 0, 1) := by decide +kernel
theorem dX3_yearTo_66 : decode cX3_yearTo 66 = .ok (.getfield 15, 3) := by decide +kernel
theorem dX3_yearTo_69 : decode cX3_yearTo 69 = .ok (.iload_n 1, 1) := by decide +kernel
theorem dX3_yearTo_70 : decode cX3_yearTo 70 = .ok (.iaload, 1) := by decide +kernel
theorem dX3_yearTo_71 : decode cX3_yearTo 71 = .ok (.i2l, 1) := by decide +kernel
theorem dX3_yearTo_72 : decode cX3_yearTo 72 = .ok (.lsub, 1) := by decide +kernel
theorem dX3_yearTo_73 : decode cX3_yearTo 73 = .ok (.getstatic 123, 3) := by decide +kernel
theorem dX3_yearTo_76 : decode cX3_yearTo 76 = .ok (.iload_n 3, 1) := by decide +kernel
theorem dX3_yearTo_77 : decode cX3_yearTo 77 = .ok (.iaload, 1) := by decide +kernel
theorem dX3_yearTo_78 : decode cX3_yearTo 78 = .ok (.bipush 12, 2) := by decide +kernel
theorem dX3_yearTo_80 : decode cX3_yearTo 80 = .ok (.idiv, 1) := by decide +kernel
theorem dX3_yearTo_81 : decode cX3_yearTo 81 = .ok (.i2l, 1) := by decide +kernel
theorem dX3_yearTo_82 : decode cX3_yearTo 82 = .ok (.ldiv, 1) := by decide +kernel
theorem dX3_yearTo_83 : decode cX3_yearTo 83 = .ok (.invokevirtual 201, 3) := by decide +kernel
theorem dX3_yearTo_86 : decode cX3_yearTo 86 = .ok (.invokevirtual 204, 3) := by decide +kernel
theorem dX3_yearTo_89 : decode cX3_yearTo 89 = .ok (.areturn, 1) := by decide +kernel
theorem dX3_feastTold_0 : decode cX3_feastTold 0 = .ok (.aload_n 0, 1) := by decide +kernel
theorem dX3_feastTold_1 : decode cX3_feastTold 1 = .ok (.getfield 18, 3) := by decide +kernel
theorem dX3_feastTold_4 : decode cX3_feastTold 4 = .ok (.iload_n 1, 1) := by decide +kernel
theorem dX3_feastTold_5 : decode cX3_feastTold 5 = .ok (.aaload, 1) := by decide +kernel
theorem dX3_feastTold_6 : decode cX3_feastTold 6 = .ok (.astore_n 3, 1) := by decide +kernel
theorem dX3_feastTold_7 : decode cX3_feastTold 7 = .ok (.iconst 5, 1) := by decide +kernel
theorem dX3_feastTold_8 : decode cX3_feastTold 8 = .ok (.newarray .int, 2) := by decide +kernel
theorem dX3_feastTold_10 : decode cX3_feastTold 10 = .ok (.dup, 1) := by decide +kernel
theorem dX3_feastTold_11 : decode cX3_feastTold 11 = .ok (.iconst 0, 1) := by decide +kernel
theorem dX3_feastTold_12 : decode cX3_feastTold 12 = .ok (.aload_n 3, 1) := by decide +kernel
theorem dX3_feastTold_13 : decode cX3_feastTold 13 = .ok (.iconst 0, 1) := by decide +kernel
theorem dX3_feastTold_14 : decode cX3_feastTold 14 = .ok (.iaload, 1) := by decide +kernel
theorem dX3_feastTold_15 : decode cX3_feastTold 15 = .ok (.iastore, 1) := by decide +kernel
theorem dX3_feastTold_16 : decode cX3_feastTold 16 = .ok (.dup, 1) := by decide +kernel
theorem dX3_feastTold_17 : decode cX3_feastTold 17 = .ok (.iconst 1, 1) := by decide +kernel
theorem dX3_feastTold_18 : decode cX3_feastTold 18 = .ok (.aload_n 3, 1) := by decide +kernel
theorem dX3_feastTold_19 : decode cX3_feastTold 19 = .ok (.iconst 1, 1) := by decide +kernel
theorem dX3_feastTold_20 : decode cX3_feastTold 20 = .ok (.iaload, 1) := by decide +kernel
theorem dX3_feastTold_21 : decode cX3_feastTold 21 = .ok (.iastore, 1) := by decide +kernel
theorem dX3_feastTold_22 : decode cX3_feastTold 22 = .ok (.dup, 1) := by decide +kernel
theorem dX3_feastTold_23 : decode cX3_feastTold 23 = .ok (.iconst 2, 1) := by decide +kernel
theorem dX3_feastTold_24 : decode cX3_feastTold 24 = .ok (.aload_n 3, 1) := by decide +kernel
theorem dX3_feastTold_25 : decode cX3_feastTold 25 = .ok (.iconst 0, 1) := by decide +kernel
theorem dX3_feastTold_26 : decode cX3_feastTold 26 = .ok (.iaload, 1) := by decide +kernel
theorem dX3_feastTold_27 : decode cX3_feastTold 27 = .ok (.iastore, 1) := by decide +kernel
theorem dX3_feastTold_28 : decode cX3_feastTold 28 = .ok (.dup, 1) := by decide +kernel
theorem dX3_feastTold_29 : decode cX3_feastTold 29 = .ok (.iconst 3, 1) := by decide +kernel
theorem dX3_feastTold_30 : decode cX3_feastTold 30 = .ok (.lconst 1, 1) := by decide +kernel
theorem dX3_feastTold_31 : decode cX3_feastTold 31 = .ok (.aload_n 3, 1) := by decide +kernel
theorem dX3_feastTold_32 : decode cX3_feastTold 32 = .ok (.iconst 0, 1) := by decide +kernel
theorem dX3_feastTold_33 : decode cX3_feastTold 33 = .ok (.iaload, 1) := by decide +kernel
theorem dX3_feastTold_34 : decode cX3_feastTold 34 = .ok (.invokestatic 55, 3) := by decide +kernel
theorem dX3_feastTold_37 : decode cX3_feastTold 37 = .ok (.iastore, 1) := by decide +kernel
theorem dX3_feastTold_38 : decode cX3_feastTold 38 = .ok (.dup, 1) := by decide +kernel
theorem dX3_feastTold_39 : decode cX3_feastTold 39 = .ok (.iconst 4, 1) := by decide +kernel
theorem dX3_feastTold_40 : decode cX3_feastTold 40 = .ok (.lconst 0, 1) := by decide +kernel
theorem dX3_feastTold_41 : decode cX3_feastTold 41 = .ok (.aload_n 3, 1) := by decide +kernel
theorem dX3_feastTold_42 : decode cX3_feastTold 42 = .ok (.iconst 0, 1) := by decide +kernel
theorem dX3_feastTold_43 : decode cX3_feastTold 43 = .ok (.iaload, 1) := by decide +kernel
theorem dX3_feastTold_44 : decode cX3_feastTold 44 = .ok (.invokestatic 55, 3) := by decide +kernel
theorem dX3_feastTold_47 : decode cX3_feastTold 47 = .ok (.iastore, 1) := by decide +kernel
theorem dX3_feastTold_48 : decode cX3_feastTold 48 = .ok (.astore 4, 2) := by decide +kernel
theorem dX3_feastTold_50 : decode cX3_feastTold 50 = .ok (.aload 4, 2) := by decide +kernel
theorem dX3_feastTold_52 : decode cX3_feastTold 52 = .ok (.iload_n 2, 1) := by decide +kernel
theorem dX3_feastTold_53 : decode cX3_feastTold 53 = .ok (.iaload, 1) := by decide +kernel
theorem dX3_feastTold_54 : decode cX3_feastTold 54 = .ok (.ireturn, 1) := by decide +kernel
theorem dX3_ofFeast_0 : decode cX3_ofFeast 0 = .ok (.aload_n 0, 1) := by decide +kernel
theorem dX3_ofFeast_1 : decode cX3_ofFeast 1 = .ok (.iload_n 1, 1) := by decide +kernel
theorem dX3_ofFeast_2 : decode cX3_ofFeast 2 = .ok (.invokestatic 96, 3) := by decide +kernel
theorem dX3_ofFeast_5 : decode cX3_ofFeast 5 = .ok (.iload_n 2, 1) := by decide +kernel
theorem dX3_ofFeast_6 : decode cX3_ofFeast 6 = .ok (.i2l, 1) := by decide +kernel
theorem dX3_ofFeast_7 : decode cX3_ofFeast 7 = .ok (.lconst 0, 1) := by decide +kernel
theorem dX3_ofFeast_8 : decode cX3_ofFeast 8 = .ok (.ldc2_w 121, 3) := by decide +kernel
theorem dX3_ofFeast_11 : decode cX3_ofFeast 11 = .ok (.invokestatic 30, 3) := by decide +kernel
theorem dX3_ofFeast_14 : decode cX3_ofFeast 14 = .ok (.ifCond .ne 7, 3) := by decide +kernel
theorem dX3_ofFeast_17 : decode cX3_ofFeast 17 = .ok (.iconst 1, 1) := by decide +kernel
theorem dX3_ofFeast_18 : decode cX3_ofFeast 18 = .ok (.goto 4, 3) := by decide +kernel
theorem dX3_ofFeast_21 : decode cX3_ofFeast 21 = .ok (.iconst 0, 1) := by decide +kernel
theorem dX3_ofFeast_22 : decode cX3_ofFeast 22 = .ok (.invokevirtual 103, 3) := by decide +kernel
theorem dX3_ofFeast_25 : decode cX3_ofFeast 25 = .ok (.ifCond .eq 7, 3) := by decide +kernel
theorem dX3_ofFeast_28 : decode cX3_ofFeast 28 = .ok (.iconst 0, 1) := by decide +kernel
theorem dX3_ofFeast_29 : decode cX3_ofFeast 29 = .ok (.goto 9, 3) := by decide +kernel
theorem dX3_ofFeast_32 : decode cX3_ofFeast 32 = .ok (.aload_n 0, 1) := by decide +kernel
theorem dX3_ofFeast_33 : decode cX3_ofFeast 33 = .ok (.iload_n 1, 1) := by decide +kernel
theorem dX3_ofFeast_34 : decode cX3_ofFeast 34 = .ok (.iload_n 2, 1) := by decide +kernel
theorem dX3_ofFeast_35 : decode cX3_ofFeast 35 = .ok (.invokevirtual 225, 3) := by decide +kernel
theorem dX3_ofFeast_38 : decode cX3_ofFeast 38 = .ok (.ireturn, 1) := by decide +kernel
theorem dX3_isInYear_0 : decode cX3_isInYear 0 = .ok (.aload_n 0, 1) := by decide +kernel
theorem dX3_isInYear_1 : decode cX3_isInYear 1 = .ok (.iload_n 1, 1) := by decide +kernel
theorem dX3_isInYear_2 : decode cX3_isInYear 2 = .ok (.invokestatic 96, 3) := by decide +kernel
theorem dX3_isInYear_5 : decode cX3_isInYear 5 = .ok (.iload_n 2, 1) := by decide +kernel
theorem dX3_isInYear_6 : decode cX3_isInYear 6 = .ok (.i2l, 1) := by decide +kernel
theorem dX3_isInYear_7 : decode cX3_isInYear 7 = .ok (.invokestatic 90, 3) := by decide +kernel
theorem dX3_isInYear_10 : decode cX3_isInYear 10 = .ok (.invokevirtual 103, 3) := by decide +kernel
theorem dX3_isInYear_13 : decode cX3_isInYear 13 = .ok (.ifCond .ne 21, 3) := by decide +kernel
theorem dX3_isInYear_16 : decode cX3_isInYear 16 = .ok (.aload_n 0, 1) := by decide +kernel
theorem dX3_isInYear_17 : decode cX3_isInYear 17 = .ok (.getfield 18, 3) := by decide +kernel
theorem dX3_isInYear_20 : decode cX3_isInYear 20 = .ok (.iload_n 1, 1) := by decide +kernel
theorem dX3_isInYear_21 : decode cX3_isInYear 21 = .ok (.aaload, 1) := by decide +kernel
theorem dX3_isInYear_22 : decode cX3_isInYear 22 = .ok (.iload_n 2, 1) := by decide +kernel
theorem dX3_isInYear_23 : decode cX3_isInYear 23 = .ok (.i2l, 1) := by decide +kernel
theorem dX3_isInYear_24 : decode cX3_isInYear 24 = .ok (.invokestatic 82, 3) := by decide +kernel
theorem dX3_isInYear_27 : decode cX3_isInYear 27 = .ok (.ifCond .eq 7, 3) := by decide +kernel
theorem dX3_isInYear_30 : decode cX3_isInYear 30 = .ok (.iconst 1, 1) := by decide +kernel
theorem dX3_isInYear_31 : decode cX3_isInYear 31 = .ok (.goto 4, 3) := by decide +kernel
theorem dX3_isInYear_34 : decode cX3_isInYear 34 = .ok (.iconst 0, 1) := by decide +kernel
theorem dX3_isInYear_35 : decode cX3_isInYear 35 = .ok (.ireturn, 1) := by decide +kernel
theorem dX3_feastOrder_0 : decode cX3_feastOrder 0 = .ok (.aload_n 0, 1) := by decide +kernel
theorem dX3_feastOrder_1 : decode cX3_feastOrder 1 = .ok (.iload_n 1, 1) := by decide +kernel
theorem dX3_feastOrder_2 : decode cX3_feastOrder 2 = .ok (.invokestatic 96, 3) := by decide +kernel
theorem dX3_feastOrder_5 : decode cX3_feastOrder 5 = .ok (.ifCond .ne 10, 3) := by decide +kernel
theorem dX3_feastOrder_8 : decode cX3_feastOrder 8 = .ok (.iload_n 2, 1) := by decide +kernel
theorem dX3_feastOrder_9 : decode cX3_feastOrder 9 = .ok (.invokestatic 96, 3) := by decide +kernel
theorem dX3_feastOrder_12 : decode cX3_feastOrder 12 = .ok (.ifCond .eq 7, 3) := by decide +kernel
theorem dX3_feastOrder_15 : decode cX3_feastOrder 15 = .ok (.iconst 1, 1) := by decide +kernel
theorem dX3_feastOrder_16 : decode cX3_feastOrder 16 = .ok (.goto 4, 3) := by decide +kernel
theorem dX3_feastOrder_19 : decode cX3_feastOrder 19 = .ok (.iconst 0, 1) := by decide +kernel
theorem dX3_feastOrder_20 : decode cX3_feastOrder 20 = .ok (.iload_n 3, 1) := by decide +kernel
theorem dX3_feastOrder_21 : decode cX3_feastOrder 21 = .ok (.invokestatic 208, 3) := by decide +kernel
theorem dX3_feastOrder_24 : decode cX3_feastOrder 24 = .ok (.invokevirtual 103, 3) := by decide +kernel
theorem dX3_feastOrder_27 : decode cX3_feastOrder 27 = .ok (.ifCond .eq 5, 3) := by decide +kernel
theorem dX3_feastOrder_30 : decode cX3_feastOrder 30 = .ok (.iconst 0, 1) := by decide +kernel
theorem dX3_feastOrder_31 : decode cX3_feastOrder 31 = .ok (.ireturn, 1) := by decide +kernel
theorem dX3_feastOrder_32 : decode cX3_feastOrder 32 = .ok (.bipush 32, 2) := by decide +kernel
theorem dX3_feastOrder_34 : decode cX3_feastOrder 34 = .ok (.aload_n 0, 1) := by decide +kernel
theorem dX3_feastOrder_35 : decode cX3_feastOrder 35 = .ok (.getfield 18, 3) := by decide +kernel
theorem dX3_feastOrder_38 : decode cX3_feastOrder 38 = .ok (.iload_n 1, 1) := by decide +kernel
theorem dX3_feastOrder_39 : decode cX3_feastOrder 39 = .ok (.aaload, 1) := by decide +kernel
theorem dX3_feastOrder_40 : decode cX3_feastOrder 40 = .ok (.iconst 0, 1) := by decide +kernel
theorem dX3_feastOrder_41 : decode cX3_feastOrder 41 = .ok (.iaload, 1) := by decide +kernel
theorem dX3_feastOrder_42 : decode cX3_feastOrder 42 = .ok (.imul, 1) := by decide +kernel
theorem dX3_feastOrder_43 : decode cX3_feastOrder 43 = .ok (.aload_n 0, 1) := by decide +kernel
theorem dX3_feastOrder_44 : decode cX3_feastOrder 44 = .ok (.getfield 18, 3) := by decide +kernel
theorem dX3_feastOrder_47 : decode cX3_feastOrder 47 = .ok (.iload_n 1, 1) := by decide +kernel
theorem dX3_feastOrder_48 : decode cX3_feastOrder 48 = .ok (.aaload, 1) := by decide +kernel
theorem dX3_feastOrder_49 : decode cX3_feastOrder 49 = .ok (.iconst 1, 1) := by decide +kernel
theorem dX3_feastOrder_50 : decode cX3_feastOrder 50 = .ok (.iaload, 1) := by decide +kernel
theorem dX3_feastOrder_51 : decode cX3_feastOrder 51 = .ok (.iadd, 1) := by decide +kernel
theorem dX3_feastOrder_52 : decode cX3_feastOrder 52 = .ok (.i2l, 1) := by decide +kernel
theorem dX3_feastOrder_53 : decode cX3_feastOrder 53 = .ok (.bipush 32, 2) := by decide +kernel
theorem dX3_feastOrder_55 : decode cX3_feastOrder 55 = .ok (.aload_n 0, 1) := by decide +kernel
theorem dX3_feastOrder_56 : decode cX3_feastOrder 56 = .ok (.getfield 18, 3) := by decide +kernel
theorem dX3_feastOrder_59 : decode cX3_feastOrder 59 = .ok (.iload_n 2, 1) := by decide +kernel
theorem dX3_feastOrder_60 : decode cX3_feastOrder 60 = .ok (.aaload, 1) := by decide +kernel
theorem dX3_feastOrder_61 : decode cX3_feastOrder 61 = .ok (.iconst 0, 1) := by decide +kernel
theorem dX3_feastOrder_62 : decode cX3_feastOrder 62 = .ok (.iaload, 1) := by decide +kernel
theorem dX3_feastOrder_63 : decode cX3_feastOrder 63 = .ok (.imul, 1) := by decide +kernel
theorem dX3_feastOrder_64 : decode cX3_feastOrder 64 = .ok (.aload_n 0, 1) := by decide +kernel
theorem dX3_feastOrder_65 : decode cX3_feastOrder 65 = .ok (.getfield 18, 3) := by decide +kernel
theorem dX3_feastOrder_68 : decode cX3_feastOrder 68 = .ok (.iload_n 2, 1) := by decide +kernel
theorem dX3_feastOrder_69 : decode cX3_feastOrder 69 = .ok (.aaload, 1) := by decide +kernel
theorem dX3_feastOrder_70 : decode cX3_feastOrder 70 = .ok (.iconst 1, 1) := by decide +kernel
theorem dX3_feastOrder_71 : decode cX3_feastOrder 71 = .ok (.iaload, 1) := by decide +kernel
theorem dX3_feastOrder_72 : decode cX3_feastOrder 72 = .ok (.iadd, 1) := by decide +kernel
theorem dX3_feastOrder_73 : decode cX3_feastOrder 73 = .ok (.i2l, 1) := by decide +kernel
theorem dX3_feastOrder_74 : decode cX3_feastOrder 74 = .ok (.iload_n 3, 1) := by decide +kernel
theorem dX3_feastOrder_75 : decode cX3_feastOrder 75 = .ok (.invokestatic 211, 3) := by decide +kernel
theorem dX3_feastOrder_78 : decode cX3_feastOrder 78 = .ok (.ireturn, 1) := by decide +kernel
theorem dX3_isFeast_0 : decode cX3_isFeast 0 = .ok (.aload_n 0, 1) := by decide +kernel
theorem dX3_isFeast_1 : decode cX3_isFeast 1 = .ok (.iload_n 1, 1) := by decide +kernel
theorem dX3_isFeast_2 : decode cX3_isFeast 2 = .ok (.iload_n 2, 1) := by decide +kernel
theorem dX3_isFeast_3 : decode cX3_isFeast 3 = .ok (.iload_n 3, 1) := by decide +kernel
theorem dX3_isFeast_4 : decode cX3_isFeast 4 = .ok (.invokevirtual 215, 3) := by decide +kernel
theorem dX3_isFeast_7 : decode cX3_isFeast 7 = .ok (.ifCond .ne 30, 3) := by decide +kernel
theorem dX3_isFeast_10 : decode cX3_isFeast 10 = .ok (.iload_n 2, 1) := by decide +kernel
theorem dX3_isFeast_11 : decode cX3_isFeast 11 = .ok (.iconst 2, 1) := by decide +kernel
theorem dX3_isFeast_12 : decode cX3_isFeast 12 = .ok (.if_icmp .ne 25, 3) := by decide +kernel
theorem dX3_isFeast_15 : decode cX3_isFeast 15 = .ok (.aload_n 0, 1) := by decide +kernel
theorem dX3_isFeast_16 : decode cX3_isFeast 16 = .ok (.getfield 18, 3) := by decide +kernel
theorem dX3_isFeast_19 : decode cX3_isFeast 19 = .ok (.iload_n 1, 1) := by decide +kernel
theorem dX3_isFeast_20 : decode cX3_isFeast 20 = .ok (.aaload, 1) := by decide +kernel
theorem dX3_isFeast_21 : decode cX3_isFeast 21 = .ok (.aload_n 0, 1) := by decide +kernel
theorem dX3_isFeast_22 : decode cX3_isFeast 22 = .ok (.getfield 18, 3) := by decide +kernel
theorem dX3_isFeast_25 : decode cX3_isFeast 25 = .ok (.iload_n 3, 1) := by decide +kernel
theorem dX3_isFeast_26 : decode cX3_isFeast 26 = .ok (.aaload, 1) := by decide +kernel
theorem dX3_isFeast_27 : decode cX3_isFeast 27 = .ok (.invokestatic 144, 3) := by decide +kernel
theorem dX3_isFeast_30 : decode cX3_isFeast 30 = .ok (.ifCond .eq 7, 3) := by decide +kernel
theorem dX3_isFeast_33 : decode cX3_isFeast 33 = .ok (.iconst 1, 1) := by decide +kernel
theorem dX3_isFeast_34 : decode cX3_isFeast 34 = .ok (.goto 4, 3) := by decide +kernel
theorem dX3_isFeast_37 : decode cX3_isFeast 37 = .ok (.iconst 0, 1) := by decide +kernel
theorem dX3_isFeast_38 : decode cX3_isFeast 38 = .ok (.ireturn, 1) := by decide +kernel
theorem dX3_dayTold_0 : decode cX3_dayTold 0 = .ok (.aload_n 0, 1) := by decide +kernel
theorem dX3_dayTold_1 : decode cX3_dayTold 1 = .ok (.getfield 21, 3) := by decide +kernel
theorem dX3_dayTold_4 : decode cX3_dayTold 4 = .ok (.iload_n 1, 1) := by decide +kernel
theorem dX3_dayTold_5 : decode cX3_dayTold 5 = .ok (.aaload, 1) := by decide +kernel
theorem dX3_dayTold_6 : decode cX3_dayTold 6 = .ok (.astore_n 3, 1) := by decide +kernel
theorem dX3_dayTold_7 : decode cX3_dayTold 7 = .ok (.bipush 6, 2) := by decide +kernel
theorem dX3_dayTold_9 : decode cX3_dayTold 9 = .ok (.newarray .int, 2) := by decide +kernel
theorem dX3_dayTold_11 : decode cX3_dayTold 11 = .ok (.dup, 1) := by decide +kernel
theorem dX3_dayTold_12 : decode cX3_dayTold 12 = .ok (.iconst 0, 1) := by decide +kernel
theorem dX3_dayTold_13 : decode cX3_dayTold 13 = .ok (.aload_n 3, 1) := by decide +kernel
theorem dX3_dayTold_14 : decode cX3_dayTold 14 = .ok (.iconst 0, 1) := by decide +kernel
theorem dX3_dayTold_15 : decode cX3_dayTold 15 = .ok (.iaload, 1) := by decide +kernel
theorem dX3_dayTold_16 : decode cX3_dayTold 16 = .ok (.iastore, 1) := by decide +kernel
theorem dX3_dayTold_17 : decode cX3_dayTold 17 = .ok (.dup, 1) := by decide +kernel
theorem dX3_dayTold_18 : decode cX3_dayTold 18 = .ok (.iconst 1, 1) := by decide +kernel
theorem dX3_dayTold_19 : decode cX3_dayTold 19 = .ok (.aload_n 3, 1) := by decide +kernel
theorem dX3_dayTold_20 : decode cX3_dayTold 20 = .ok (.iconst 1, 1) := by decide +kernel
theorem dX3_dayTold_21 : decode cX3_dayTold 21 = .ok (.iaload, 1) := by decide +kernel
theorem dX3_dayTold_22 : decode cX3_dayTold 22 = .ok (.iastore, 1) := by decide +kernel
theorem dX3_dayTold_23 : decode cX3_dayTold 23 = .ok (.dup, 1) := by decide +kernel
theorem dX3_dayTold_24 : decode cX3_dayTold 24 = .ok (.iconst 2, 1) := by decide +kernel
theorem dX3_dayTold_25 : decode cX3_dayTold 25 = .ok (.aload_n 3, 1) := by decide +kernel
theorem dX3_dayTold_26 : decode cX3_dayTold 26 = .ok (.iconst 2, 1) := by decide +kernel
theorem dX3_dayTold_27 : decode cX3_dayTold 27 = .ok (.iaload, 1) := by decide +kernel
theorem dX3_dayTold_28 : decode cX3_dayTold 28 = .ok (.iastore, 1) := by decide +kernel
theorem dX3_dayTold_29 : decode cX3_dayTold 29 = .ok (.dup, 1) := by decide +kernel
theorem dX3_dayTold_30 : decode cX3_dayTold 30 = .ok (.iconst 3, 1) := by decide +kernel
theorem dX3_dayTold_31 : decode cX3_dayTold 31 = .ok (.aload_n 3, 1) := by decide +kernel
theorem dX3_dayTold_32 : decode cX3_dayTold 32 = .ok (.iconst 0, 1) := by decide +kernel
theorem dX3_dayTold_33 : decode cX3_dayTold 33 = .ok (.iaload, 1) := by decide +kernel
theorem dX3_dayTold_34 : decode cX3_dayTold 34 = .ok (.aload_n 3, 1) := by decide +kernel
theorem dX3_dayTold_35 : decode cX3_dayTold 35 = .ok (.iconst 1, 1) := by decide +kernel
theorem dX3_dayTold_36 : decode cX3_dayTold 36 = .ok (.iaload, 1) := by decide +kernel
theorem dX3_dayTold_37 : decode cX3_dayTold 37 = .ok (.aload_n 3, 1) := by decide +kernel
theorem dX3_dayTold_38 : decode cX3_dayTold 38 = .ok (.iconst 2, 1) := by decide +kernel
theorem dX3_dayTold_39 : decode cX3_dayTold 39 = .ok (.iaload, 1) := by decide +kernel
theorem dX3_dayTold_40 : decode cX3_dayTold 40 = .ok (.invokestatic 70, 3) := by decide +kernel
theorem dX3_dayTold_43 : decode cX3_dayTold 43 = .ok (.iastore, 1) := by decide +kernel
theorem dX3_dayTold_44 : decode cX3_dayTold 44 = .ok (.dup, 1) := by decide +kernel
theorem dX3_dayTold_45 : decode cX3_dayTold 45 = .ok (.iconst 4, 1) := by decide +kernel
theorem dX3_dayTold_46 : decode cX3_dayTold 46 = .ok (.aload_n 3, 1) := by decide +kernel
theorem dX3_dayTold_47 : decode cX3_dayTold 47 = .ok (.invokestatic 177, 3) := by decide +kernel
theorem dX3_dayTold_50 : decode cX3_dayTold 50 = .ok (.iastore, 1) := by decide +kernel
theorem dX3_dayTold_51 : decode cX3_dayTold 51 = .ok (.dup, 1) := by decide +kernel
theorem dX3_dayTold_52 : decode cX3_dayTold 52 = .ok (.iconst 5, 1) := by decide +kernel
theorem dX3_dayTold_53 : decode cX3_dayTold 53 = .ok (.aload_n 3, 1) := by decide +kernel
theorem dX3_dayTold_54 : decode cX3_dayTold 54 = .ok (.iconst 2, 1) := by decide +kernel
theorem dX3_dayTold_55 : decode cX3_dayTold 55 = .ok (.iaload, 1) := by decide +kernel
theorem dX3_dayTold_56 : decode cX3_dayTold 56 = .ok (.aload_n 3, 1) := by decide +kernel
theorem dX3_dayTold_57 : decode cX3_dayTold 57 = .ok (.iconst 0, 1) := by decide +kernel
theorem dX3_dayTold_58 : decode cX3_dayTold 58 = .ok (.iaload, 1) := by decide +kernel
theorem dX3_dayTold_59 : decode cX3_dayTold 59 = .ok (.i2l, 1) := by decide +kernel
theorem dX3_dayTold_60 : decode cX3_dayTold 60 = .ok (.aload_n 3, 1) := by decide +kernel
theorem dX3_dayTold_61 : decode cX3_dayTold 61 = .ok (.iconst 1, 1) := by decide +kernel
theorem dX3_dayTold_62 : decode cX3_dayTold 62 = .ok (.iaload, 1) := by decide +kernel
theorem dX3_dayTold_63 : decode cX3_dayTold 63 = .ok (.invokestatic 55, 3) := by decide +kernel
theorem dX3_dayTold_66 : decode cX3_dayTold 66 = .ok (.if_icmp .ne 7, 3) := by decide +kernel
theorem dX3_dayTold_69 : decode cX3_dayTold 69 = .ok (.iconst 1, 1) := by decide +kernel
theorem dX3_dayTold_70 : decode cX3_dayTold 70 = .ok (.goto 4, 3) := by decide +kernel
theorem dX3_dayTold_73 : decode cX3_dayTold 73 = .ok (.iconst 0, 1) := by decide +kernel
theorem dX3_dayTold_74 : decode cX3_dayTold 74 = .ok (.invokestatic 78, 3) := by decide +kernel
theorem dX3_dayTold_77 : decode cX3_dayTold 77 = .ok (.iastore, 1) := by decide +kernel
theorem dX3_dayTold_78 : decode cX3_dayTold 78 = .ok (.astore 4, 2) := by decide +kernel
theorem dX3_dayTold_80 : decode cX3_dayTold 80 = .ok (.aload 4, 2) := by decide +kernel
theorem dX3_dayTold_82 : decode cX3_dayTold 82 = .ok (.iload_n 2, 1) := by decide +kernel
theorem dX3_dayTold_83 : decode cX3_dayTold 83 = .ok (.iaload, 1) := by decide +kernel
theorem dX3_dayTold_84 : decode cX3_dayTold 84 = .ok (.ireturn, 1) := by decide +kernel
theorem dX3_ofDay_0 : decode cX3_ofDay 0 = .ok (.aload_n 0, 1) := by decide +kernel
theorem dX3_ofDay_1 : decode cX3_ofDay 1 = .ok (.iload_n 1, 1) := by decide +kernel
theorem dX3_ofDay_2 : decode cX3_ofDay 2 = .ok (.invokestatic 96, 3) := by decide +kernel
theorem dX3_ofDay_5 : decode cX3_ofDay 5 = .ok (.iload_n 2, 1) := by decide +kernel
theorem dX3_ofDay_6 : decode cX3_ofDay 6 = .ok (.i2l, 1) := by decide +kernel
theorem dX3_ofDay_7 : decode cX3_ofDay 7 = .ok (.lconst 0, 1) := by decide +kernel
theorem dX3_ofDay_8 : decode cX3_ofDay 8 = .ok (.ldc2_w 228, 3) := by decide +kernel
theorem dX3_ofDay_11 : decode cX3_ofDay 11 = .ok (.invokestatic 30, 3) := by decide +kernel
theorem dX3_ofDay_14 : decode cX3_ofDay 14 = .ok (.ifCond .ne 7, 3) := by decide +kernel
theorem dX3_ofDay_17 : decode cX3_ofDay 17 = .ok (.iconst 1, 1) := by decide +kernel
theorem dX3_ofDay_18 : decode cX3_ofDay 18 = .ok (.goto 4, 3) := by decide +kernel
theorem dX3_ofDay_21 : decode cX3_ofDay 21 = .ok (.iconst 0, 1) := by decide +kernel
theorem dX3_ofDay_22 : decode cX3_ofDay 22 = .ok (.invokevirtual 103, 3) := by decide +kernel
theorem dX3_ofDay_25 : decode cX3_ofDay 25 = .ok (.ifCond .eq 7, 3) := by decide +kernel
theorem dX3_ofDay_28 : decode cX3_ofDay 28 = .ok (.iconst 0, 1) := by decide +kernel
theorem dX3_ofDay_29 : decode cX3_ofDay 29 = .ok (.goto 9, 3) := by decide +kernel
theorem dX3_ofDay_32 : decode cX3_ofDay 32 = .ok (.aload_n 0, 1) := by decide +kernel
theorem dX3_ofDay_33 : decode cX3_ofDay 33 = .ok (.iload_n 1, 1) := by decide +kernel
theorem dX3_ofDay_34 : decode cX3_ofDay 34 = .ok (.iload_n 2, 1) := by decide +kernel
theorem dX3_ofDay_35 : decode cX3_ofDay 35 = .ok (.invokevirtual 230, 3) := by decide +kernel
theorem dX3_ofDay_38 : decode cX3_ofDay 38 = .ok (.ireturn, 1) := by decide +kernel
theorem dX3_number_0 : decode cX3_number 0 = .ok (.aload_n 0, 1) := by decide +kernel
theorem dX3_number_1 : decode cX3_number 1 = .ok (.iload_n 1, 1) := by decide +kernel
theorem dX3_number_2 : decode cX3_number 2 = .ok (.invokestatic 96, 3) := by decide +kernel
theorem dX3_number_5 : decode cX3_number 5 = .ok (.iconst 0, 1) := by decide +kernel
theorem dX3_number_6 : decode cX3_number 6 = .ok (.invokevirtual 103, 3) := by decide +kernel
theorem dX3_number_9 : decode cX3_number 9 = .ok (.ifCond .eq 8, 3) := by decide +kernel
theorem dX3_number_12 : decode cX3_number 12 = .ok (.ldc 192, 2) := by decide +kernel
theorem dX3_number_14 : decode cX3_number 14 = .ok (.goto 30, 3) := by decide +kernel
theorem dX3_number_17 : decode cX3_number 17 = .ok (.new 194, 3) := by decide +kernel
theorem dX3_number_20 : decode cX3_number 20 = .ok (.dup, 1) := by decide +kernel
theorem dX3_number_21 : decode cX3_number 21 = .ok (.invokespecial 196, 3) := by decide +kernel
theorem dX3_number_24 : decode cX3_number 24 = .ok (.ldc 192, 2) := by decide +kernel
theorem dX3_number_26 : decode cX3_number 26 = .ok (.invokevirtual 197, 3) := by decide +kernel
theorem dX3_number_29 : decode cX3_number 29 = .ok (.aload_n 0, 1) := by decide +kernel
theorem dX3_number_30 : decode cX3_number 30 = .ok (.getfield 21, 3) := by decide +kernel
theorem dX3_number_33 : decode cX3_number 33 = .ok (.iload_n 1, 1) := by decide +kernel
theorem dX3_number_34 : decode cX3_number 34 = .ok (.aaload, 1) := by decide +kernel
theorem dX3_number_35 : decode cX3_number 35 = .ok (.invokestatic 74, 3) := by decide +kernel
theorem dX3_number_38 : decode cX3_number 38 = .ok (.invokevirtual 201, 3) := by decide +kernel
theorem dX3_number_41 : decode cX3_number 41 = .ok (.invokevirtual 204, 3) := by decide +kernel
theorem dX3_number_44 : decode cX3_number 44 = .ok (.areturn, 1) := by decide +kernel
theorem dX3_dayOrder_0 : decode cX3_dayOrder 0 = .ok (.aload_n 0, 1) := by decide +kernel
theorem dX3_dayOrder_1 : decode cX3_dayOrder 1 = .ok (.iload_n 1, 1) := by decide +kernel
theorem dX3_dayOrder_2 : decode cX3_dayOrder 2 = .ok (.invokestatic 96, 3) := by decide +kernel
theorem dX3_dayOrder_5 : decode cX3_dayOrder 5 = .ok (.ifCond .ne 10, 3) := by decide +kernel
theorem dX3_dayOrder_8 : decode cX3_dayOrder 8 = .ok (.iload_n 2, 1) := by decide +kernel
theorem dX3_dayOrder_9 : decode cX3_dayOrder 9 = .ok (.invokestatic 96, 3) := by decide +kernel
theorem dX3_dayOrder_12 : decode cX3_dayOrder 12 = .ok (.ifCond .eq 7, 3) := by decide +kernel
theorem dX3_dayOrder_15 : decode cX3_dayOrder 15 = .ok (.iconst 1, 1) := by decide +kernel
theorem dX3_dayOrder_16 : decode cX3_dayOrder 16 = .ok (.goto 4, 3) := by decide +kernel
theorem dX3_dayOrder_19 : decode cX3_dayOrder 19 = .ok (.iconst 0, 1) := by decide +kernel
theorem dX3_dayOrder_20 : decode cX3_dayOrder 20 = .ok (.iload_n 3, 1) := by decide +kernel
theorem dX3_dayOrder_21 : decode cX3_dayOrder 21 = .ok (.invokestatic 208, 3) := by decide +kernel
theorem dX3_dayOrder_24 : decode cX3_dayOrder 24 = .ok (.invokevirtual 103, 3) := by decide +kernel
theorem dX3_dayOrder_27 : decode cX3_dayOrder 27 = .ok (.ifCond .eq 7, 3) := by decide +kernel
theorem dX3_dayOrder_30 : decode cX3_dayOrder 30 = .ok (.iconst 0, 1) := by decide +kernel
theorem dX3_dayOrder_31 : decode cX3_dayOrder 31 = .ok (.goto 25, 3) := by decide +kernel
theorem dX3_dayOrder_34 : decode cX3_dayOrder 34 = .ok (.aload_n 0, 1) := by decide +kernel
theorem dX3_dayOrder_35 : decode cX3_dayOrder 35 = .ok (.getfield 21, 3) := by decide +kernel
theorem dX3_dayOrder_38 : decode cX3_dayOrder 38 = .ok (.iload_n 1, 1) := by decide +kernel
theorem dX3_dayOrder_39 : decode cX3_dayOrder 39 = .ok (.aaload, 1) := by decide +kernel
theorem dX3_dayOrder_40 : decode cX3_dayOrder 40 = .ok (.invokestatic 74, 3) := by decide +kernel
theorem dX3_dayOrder_43 : decode cX3_dayOrder 43 = .ok (.aload_n 0, 1) := by decide +kernel
theorem dX3_dayOrder_44 : decode cX3_dayOrder 44 = .ok (.getfield 21, 3) := by decide +kernel
theorem dX3_dayOrder_47 : decode cX3_dayOrder 47 = .ok (.iload_n 2, 1) := by decide +kernel
theorem dX3_dayOrder_48 : decode cX3_dayOrder 48 = .ok (.aaload, 1) := by decide +kernel
theorem dX3_dayOrder_49 : decode cX3_dayOrder 49 = .ok (.invokestatic 74, 3) := by decide +kernel
theorem dX3_dayOrder_52 : decode cX3_dayOrder 52 = .ok (.iload_n 3, 1) := by decide +kernel
theorem dX3_dayOrder_53 : decode cX3_dayOrder 53 = .ok (.invokestatic 211, 3) := by decide +kernel
theorem dX3_dayOrder_56 : decode cX3_dayOrder 56 = .ok (.ireturn, 1) := by decide +kernel
theorem dX3_knows_0 : decode cX3_knows 0 = .ok (.aload_n 0, 1) := by decide +kernel
theorem dX3_knows_1 : decode cX3_knows 1 = .ok (.iload_n 1, 1) := by decide +kernel
theorem dX3_knows_2 : decode cX3_knows 2 = .ok (.i2l, 1) := by decide +kernel
theorem dX3_knows_3 : decode cX3_knows 3 = .ok (.lconst 0, 1) := by decide +kernel
theorem dX3_knows_4 : decode cX3_knows 4 = .ok (.ldc2_w 155, 3) := by decide +kernel
theorem dX3_knows_7 : decode cX3_knows 7 = .ok (.invokestatic 30, 3) := by decide +kernel
theorem dX3_knows_10 : decode cX3_knows 10 = .ok (.ifCond .eq 15, 3) := by decide +kernel
theorem dX3_knows_13 : decode cX3_knows 13 = .ok (.iload_n 2, 1) := by decide +kernel
theorem dX3_knows_14 : decode cX3_knows 14 = .ok (.i2l, 1) := by decide +kernel
theorem dX3_knows_15 : decode cX3_knows 15 = .ok (.lconst 0, 1) := by decide +kernel
theorem dX3_knows_16 : decode cX3_knows 16 = .ok (.ldc2_w 38, 3) := by decide +kernel
theorem dX3_knows_19 : decode cX3_knows 19 = .ok (.invokestatic 30, 3) := by decide +kernel
theorem dX3_knows_22 : decode cX3_knows 22 = .ok (.ifCond .ne 7, 3) := by decide +kernel
theorem dX3_knows_25 : decode cX3_knows 25 = .ok (.iconst 1, 1) := by decide +kernel
theorem dX3_knows_26 : decode cX3_knows 26 = .ok (.goto 4, 3) := by decide +kernel
theorem dX3_knows_29 : decode cX3_knows 29 = .ok (.iconst 0, 1) := by decide +kernel
theorem dX3_knows_30 : decode cX3_knows 30 = .ok (.iconst 0, 1) := by decide +kernel
theorem dX3_knows_31 : decode cX3_knows 31 = .ok (.invokevirtual 103, 3) := by decide +kernel
theorem dX3_knows_34 : decode cX3_knows 34 = .ok (.ifCond .eq 5, 3) := by decide +kernel
theorem dX3_knows_37 : decode cX3_knows 37 = .ok (.iconst 0, 1) := by decide +kernel
theorem dX3_knows_38 : decode cX3_knows 38 = .ok (.ireturn, 1) := by decide +kernel
theorem dX3_knows_39 : decode cX3_knows 39 = .ok (.iload_n 1, 1) := by decide +kernel
theorem dX3_knows_40 : decode cX3_knows 40 = .ok (.iconst 2, 1) := by decide +kernel
theorem dX3_knows_41 : decode cX3_knows 41 = .ok (.if_icmp .ne 14, 3) := by decide +kernel
theorem dX3_knows_44 : decode cX3_knows 44 = .ok (.iload_n 2, 1) := by decide +kernel
theorem dX3_knows_45 : decode cX3_knows 45 = .ok (.iconst 2, 1) := by decide +kernel
theorem dX3_knows_46 : decode cX3_knows 46 = .ok (.if_icmp .ge 7, 3) := by decide +kernel
theorem dX3_knows_49 : decode cX3_knows 49 = .ok (.iconst 1, 1) := by decide +kernel
theorem dX3_knows_50 : decode cX3_knows 50 = .ok (.goto 4, 3) := by decide +kernel
theorem dX3_knows_53 : decode cX3_knows 53 = .ok (.iconst 0, 1) := by decide +kernel
theorem dX3_knows_54 : decode cX3_knows 54 = .ok (.ireturn, 1) := by decide +kernel
theorem dX3_knows_55 : decode cX3_knows 55 = .ok (.iload_n 1, 1) := by decide +kernel
theorem dX3_knows_56 : decode cX3_knows 56 = .ok (.ifCond .ne 21, 3) := by decide +kernel
theorem dX3_knows_59 : decode cX3_knows 59 = .ok (.iload_n 2, 1) := by decide +kernel
theorem dX3_knows_60 : decode cX3_knows 60 = .ok (.ifCond .eq 13, 3) := by decide +kernel
theorem dX3_knows_63 : decode cX3_knows 63 = .ok (.iload_n 2, 1) := by decide +kernel
theorem dX3_knows_64 : decode cX3_knows 64 = .ok (.bipush 6, 2) := by decide +kernel
theorem dX3_knows_66 : decode cX3_knows 66 = .ok (.if_icmp .eq 7, 3) := by decide +kernel
theorem dX3_knows_69 : decode cX3_knows 69 = .ok (.iconst 1, 1) := by decide +kernel
theorem dX3_knows_70 : decode cX3_knows 70 = .ok (.goto 32, 3) := by decide +kernel
theorem dX3_knows_73 : decode cX3_knows 73 = .ok (.iconst 0, 1) := by decide +kernel
theorem dX3_knows_74 : decode cX3_knows 74 = .ok (.goto 28, 3) := by decide +kernel
theorem dX3_knows_77 : decode cX3_knows 77 = .ok (.iload_n 2, 1) := by decide +kernel
theorem dX3_knows_78 : decode cX3_knows 78 = .ok (.i2l, 1) := by decide +kernel
theorem dX3_knows_79 : decode cX3_knows 79 = .ok (.ldc2_w 28, 3) := by decide +kernel
theorem dX3_knows_82 : decode cX3_knows 82 = .ok (.ldc2_w 228, 3) := by decide +kernel
theorem dX3_knows_85 : decode cX3_knows 85 = .ok (.invokestatic 30, 3) := by decide +kernel
theorem dX3_knows_88 : decode cX3_knows 88 = .ok (.ifCond .ne 9, 3) := by decide +kernel
theorem dX3_knows_91 : decode cX3_knows 91 = .ok (.iload_n 2, 1) := by decide +kernel
theorem dX3_knows_92 : decode cX3_knows 92 = .ok (.bipush 7, 2) := by decide +kernel
theorem dX3_knows_94 : decode cX3_knows 94 = .ok (.if_icmp .le 7, 3) := by decide +kernel
theorem dX3_knows_97 : decode cX3_knows 97 = .ok (.iconst 1, 1) := by decide +kernel
theorem dX3_knows_98 : decode cX3_knows 98 = .ok (.goto 4, 3) := by decide +kernel
theorem dX3_knows_101 : decode cX3_knows 101 = .ok (.iconst 0, 1) := by decide +kernel
theorem dX3_knows_102 : decode cX3_knows 102 = .ok (.ireturn, 1) := by decide +kernel
theorem dX3_edge_0 : decode cX3_edge 0 = .ok (.aload_n 0, 1) := by decide +kernel
theorem dX3_edge_1 : decode cX3_edge 1 = .ok (.iconst 0, 1) := by decide +kernel
theorem dX3_edge_2 : decode cX3_edge 2 = .ok (.putfield 24, 3) := by decide +kernel
theorem dX3_edge_5 : decode cX3_edge 5 = .ok (.iload_n 1, 1) := by decide +kernel
theorem dX3_edge_6 : decode cX3_edge 6 = .ok (.ifCond .eq 8, 3) := by decide +kernel
theorem dX3_edge_9 : decode cX3_edge 9 = .ok (.ldc 233, 2) := by decide +kernel
theorem dX3_edge_11 : decode cX3_edge 11 = .ok (.goto 5, 3) := by decide +kernel
theorem dX3_edge_14 : decode cX3_edge 14 = .ok (.ldc 234, 2) := by decide +kernel
theorem dX3_edge_16 : decode cX3_edge 16 = .ok (.ireturn, 1) := by decide +kernel
theorem dX3_knock_0 : decode cX3_knock 0 = .ok (.aload_n 0, 1) := by decide +kernel
theorem dX3_knock_1 : decode cX3_knock 1 = .ok (.iconst 0, 1) := by decide +kernel
theorem dX3_knock_2 : decode cX3_knock 2 = .ok (.putfield 24, 3) := by decide +kernel
theorem dX3_knock_5 : decode cX3_knock 5 = .ok (.aload_n 0, 1) := by decide +kernel
theorem dX3_knock_6 : decode cX3_knock 6 = .ok (.dup, 1) := by decide +kernel
theorem dX3_knock_7 : decode cX3_knock 7 = .ok (.getfield 235, 3) := by decide +kernel
theorem dX3_knock_10 : decode cX3_knock 10 = .ok (.iconst 1, 1) := by decide +kernel
theorem dX3_knock_11 : decode cX3_knock 11 = .ok (.iadd, 1) := by decide +kernel
theorem dX3_knock_12 : decode cX3_knock 12 = .ok (.putfield 235, 3) := by decide +kernel
theorem dX3_knock_15 : decode cX3_knock 15 = .ok (.aload_n 0, 1) := by decide +kernel
theorem dX3_knock_16 : decode cX3_knock 16 = .ok (.getfield 235, 3) := by decide +kernel
theorem dX3_knock_19 : decode cX3_knock 19 = .ok (.ireturn, 1) := by decide +kernel
theorem dX3_houseTold_0 : decode cX3_houseTold 0 = .ok (.iconst 5, 1) := by decide +kernel
theorem dX3_houseTold_1 : decode cX3_houseTold 1 = .ok (.newarray .int, 2) := by decide +kernel
theorem dX3_houseTold_3 : decode cX3_houseTold 3 = .ok (.dup, 1) := by decide +kernel
theorem dX3_houseTold_4 : decode cX3_houseTold 4 = .ok (.iconst 0, 1) := by decide +kernel
theorem dX3_houseTold_5 : decode cX3_houseTold 5 = .ok (.iconst 0, 1) := by decide +kernel
theorem dX3_houseTold_6 : decode cX3_houseTold 6 = .ok (.iastore, 1) := by decide +kernel
theorem dX3_houseTold_7 : decode cX3_houseTold 7 = .ok (.dup, 1) := by decide +kernel
theorem dX3_houseTold_8 : decode cX3_houseTold 8 = .ok (.iconst 1, 1) := by decide +kernel
theorem dX3_houseTold_9 : decode cX3_houseTold 9 = .ok (.iconst 0, 1) := by decide +kernel
theorem dX3_houseTold_10 : decode cX3_houseTold 10 = .ok (.iastore, 1) := by decide +kernel
theorem dX3_houseTold_11 : decode cX3_houseTold 11 = .ok (.dup, 1) := by decide +kernel
theorem dX3_houseTold_12 : decode cX3_houseTold 12 = .ok (.iconst 2, 1) := by decide +kernel
theorem dX3_houseTold_13 : decode cX3_houseTold 13 = .ok (.iconst 0, 1) := by decide +kernel
theorem dX3_houseTold_14 : decode cX3_houseTold 14 = .ok (.iastore, 1) := by decide +kernel
theorem dX3_houseTold_15 : decode cX3_houseTold 15 = .ok (.dup, 1) := by decide +kernel
theorem dX3_houseTold_16 : decode cX3_houseTold 16 = .ok (.iconst 3, 1) := by decide +kernel
theorem dX3_houseTold_17 : decode cX3_houseTold 17 = .ok (.iconst 0, 1) := by decide +kernel
theorem dX3_houseTold_18 : decode cX3_houseTold 18 = .ok (.iastore, 1) := by decide +kernel
theorem dX3_houseTold_19 : decode cX3_houseTold 19 = .ok (.dup, 1) := by decide +kernel
theorem dX3_houseTold_20 : decode cX3_houseTold 20 = .ok (.iconst 4, 1) := by decide +kernel
theorem dX3_houseTold_21 : decode cX3_houseTold 21 = .ok (.aload_n 0, 1) := by decide +kernel
theorem dX3_houseTold_22 : decode cX3_houseTold 22 = .ok (.getfield 235, 3) := by decide +kernel
theorem dX3_houseTold_25 : decode cX3_houseTold 25 = .ok (.iastore, 1) := by decide +kernel
theorem dX3_houseTold_26 : decode cX3_houseTold 26 = .ok (.astore_n 2, 1) := by decide +kernel
theorem dX3_houseTold_27 : decode cX3_houseTold 27 = .ok (.iconst 0, 1) := by decide +kernel
theorem dX3_houseTold_28 : decode cX3_houseTold 28 = .ok (.istore_n 3, 1) := by decide +kernel
theorem dX3_houseTold_29 : decode cX3_houseTold 29 = .ok (.iload_n 3, 1) := by decide +kernel
theorem dX3_houseTold_30 : decode cX3_houseTold 30 = .ok (.iconst 4, 1) := by decide +kernel
theorem dX3_houseTold_31 : decode cX3_houseTold 31 = .ok (.if_icmp .ge 79, 3) := by decide +kernel
theorem dX3_houseTold_34 : decode cX3_houseTold 34 = .ok (.aload_n 2, 1) := by decide +kernel
theorem dX3_houseTold_35 : decode cX3_houseTold 35 = .ok (.iconst 0, 1) := by decide +kernel
theorem dX3_houseTold_36 : decode cX3_houseTold 36 = .ok (.dup2, 1) := by decide +kernel
theorem dX3_houseTold_37 : decode cX3_houseTold 37 = .ok (.iaload, 1) := by decide +kernel
theorem dX3_houseTold_38 : decode cX3_houseTold 38 = .ok (.aload_n 0, 1) := by decide +kernel
theorem dX3_houseTold_39 : decode cX3_houseTold 39 = .ok (.getfield 9, 3) := by decide +kernel
theorem dX3_houseTold_42 : decode cX3_houseTold 42 = .ok (.iload_n 3, 1) := by decide +kernel
theorem dX3_houseTold_43 : decode cX3_houseTold 43 = .ok (.aaload, 1) := by decide +kernel
theorem dX3_houseTold_44 : decode cX3_houseTold 44 = .ok (.iconst 0, 1) := by decide +kernel
theorem dX3_houseTold_45 : decode cX3_houseTold 45 = .ok (.iaload, 1) := by decide +kernel
theorem dX3_houseTold_46 : decode cX3_houseTold 46 = .ok (.i2l, 1) := by decide +kernel
theorem dX3_houseTold_47 : decode cX3_houseTold 47 = .ok (.invokestatic 44, 3) := by decide +kernel
theorem dX3_houseTold_50 : decode cX3_houseTold 50 = .ok (.invokestatic 78, 3) := by decide +kernel
theorem dX3_houseTold_53 : decode cX3_houseTold 53 = .ok (.iadd, 1) := by decide +kernel
theorem dX3_houseTold_54 : decode cX3_houseTold 54 = .ok (.iastore, 1) := by decide +kernel
theorem dX3_houseTold_55 : decode cX3_houseTold 55 = .ok (.aload_n 2, 1) := by decide +kernel
theorem dX3_houseTold_56 : decode cX3_houseTold 56 = .ok (.iconst 1, 1) := by decide +kernel
theorem dX3_houseTold_57 : decode cX3_houseTold 57 = .ok (.dup2, 1) := by decide +kernel
theorem dX3_houseTold_58 : decode cX3_houseTold 58 = .ok (.iaload, 1) := by decide +kernel
theorem dX3_houseTold_59 : decode cX3_houseTold 59 = .ok (.aload_n 0, 1) := by decide +kernel
theorem dX3_houseTold_60 : decode cX3_houseTold 60 = .ok (.getfield 15, 3) := by decide +kernel
theorem dX3_houseTold_63 : decode cX3_houseTold 63 = .ok (.iload_n 3, 1) := by decide +kernel
theorem dX3_houseTold_64 : decode cX3_houseTold 64 = .ok (.iaload, 1) := by decide +kernel
theorem dX3_houseTold_65 : decode cX3_houseTold 65 = .ok (.i2l, 1) := by decide +kernel
theorem dX3_houseTold_66 : decode cX3_houseTold 66 = .ok (.invokestatic 44, 3) := by decide +kernel
theorem dX3_houseTold_69 : decode cX3_houseTold 69 = .ok (.invokestatic 78, 3) := by decide +kernel
theorem dX3_houseTold_72 : decode cX3_houseTold 72 = .ok (.iadd, 1) := by decide +kernel
theorem dX3_houseTold_73 : decode cX3_houseTold 73 = .ok (.iastore, 1) := by decide +kernel
theorem dX3_houseTold_74 : decode cX3_houseTold 74 = .ok (.aload_n 2, 1) := by decide +kernel
theorem dX3_houseTold_75 : decode cX3_houseTold 75 = .ok (.iconst 2, 1) := by decide +kernel
theorem dX3_houseTold_76 : decode cX3_houseTold 76 = .ok (.dup2, 1) := by decide +kernel
theorem dX3_houseTold_77 : decode cX3_houseTold 77 = .ok (.iaload, 1) := by decide +kernel
theorem dX3_houseTold_78 : decode cX3_houseTold 78 = .ok (.aload_n 0, 1) := by decide +kernel
theorem dX3_houseTold_79 : decode cX3_houseTold 79 = .ok (.getfield 18, 3) := by decide +kernel
theorem dX3_houseTold_82 : decode cX3_houseTold 82 = .ok (.iload_n 3, 1) := by decide +kernel
theorem dX3_houseTold_83 : decode cX3_houseTold 83 = .ok (.aaload, 1) := by decide +kernel
theorem dX3_houseTold_84 : decode cX3_houseTold 84 = .ok (.invokestatic 163, 3) := by decide +kernel
theorem dX3_houseTold_87 : decode cX3_houseTold 87 = .ok (.invokestatic 78, 3) := by decide +kernel
theorem dX3_houseTold_90 : decode cX3_houseTold 90 = .ok (.iadd, 1) := by decide +kernel
theorem dX3_houseTold_91 : decode cX3_houseTold 91 = .ok (.iastore, 1) := by decide +kernel
theorem dX3_houseTold_92 : decode cX3_houseTold 92 = .ok (.aload_n 2, 1) := by decide +kernel
theorem dX3_houseTold_93 : decode cX3_houseTold 93 = .ok (.iconst 3, 1) := by decide +kernel
theorem dX3_houseTold_94 : decode cX3_houseTold 94 = .ok (.dup2, 1) := by decide +kernel
theorem dX3_houseTold_95 : decode cX3_houseTold 95 = .ok (.iaload, 1) := by decide +kernel
theorem dX3_houseTold_96 : decode cX3_houseTold 96 = .ok (.aload_n 0, 1) := by decide +kernel
theorem dX3_houseTold_97 : decode cX3_houseTold 97 = .ok (.iload_n 3, 1) := by decide +kernel
theorem dX3_houseTold_98 : decode cX3_houseTold 98 = .ok (.iconst 5, 1) := by decide +kernel
theorem dX3_houseTold_99 : decode cX3_houseTold 99 = .ok (.invokevirtual 230, 3) := by decide +kernel
theorem dX3_houseTold_102 : decode cX3_houseTold 102 = .ok (.iadd, 1) := by decide +kernel
theorem dX3_houseTold_103 : decode cX3_houseTold 103 = .ok (.iastore, 1) := by decide +kernel
theorem dX3_houseTold_104 : decode cX3_houseTold 104 = .ok (.iinc 3 1, 3) := by decide +kernel
theorem dX3_houseTold_107 : decode cX3_houseTold 107 = .ok (.goto (-78), 3) := by decide +kernel
theorem dX3_houseTold_110 : decode cX3_houseTold 110 = .ok (.aload_n 2, 1) := by decide +kernel
theorem dX3_houseTold_111 : decode cX3_houseTold 111 = .ok (.iload_n 1, 1) := by decide +kernel
theorem dX3_houseTold_112 : decode cX3_houseTold 112 = .ok (.iaload, 1) := by decide +kernel
theorem dX3_houseTold_113 : decode cX3_houseTold 113 = .ok (.ireturn, 1) := by decide +kernel
theorem dX3_house_0 : decode cX3_house 0 = .ok (.aload_n 0, 1) := by decide +kernel
theorem dX3_house_1 : decode cX3_house 1 = .ok (.iload_n 1, 1) := by decide +kernel
theorem dX3_house_2 : decode cX3_house 2 = .ok (.i2l, 1) := by decide +kernel
theorem dX3_house_3 : decode cX3_house 3 = .ok (.lconst 0, 1) := by decide +kernel
theorem dX3_house_4 : decode cX3_house 4 = .ok (.ldc2_w 121, 3) := by decide +kernel
theorem dX3_house_7 : decode cX3_house 7 = .ok (.invokestatic 30, 3) := by decide +kernel
theorem dX3_house_10 : decode cX3_house 10 = .ok (.ifCond .ne 7, 3) := by decide +kernel
theorem dX3_house_13 : decode cX3_house 13 = .ok (.iconst 1, 1) := by decide +kernel
theorem dX3_house_14 : decode cX3_house 14 = .ok (.goto 4, 3) := by decide +kernel
theorem dX3_house_17 : decode cX3_house 17 = .ok (.iconst 0, 1) := by decide +kernel
theorem dX3_house_18 : decode cX3_house 18 = .ok (.iconst 0, 1) := by decide +kernel
theorem dX3_house_19 : decode cX3_house 19 = .ok (.invokevirtual 103, 3) := by decide +kernel
theorem dX3_house_22 : decode cX3_house 22 = .ok (.ifCond .eq 7, 3) := by decide +kernel
theorem dX3_house_25 : decode cX3_house 25 = .ok (.iconst 0, 1) := by decide +kernel
theorem dX3_house_26 : decode cX3_house 26 = .ok (.goto 8, 3) := by decide +kernel
theorem dX3_house_29 : decode cX3_house 29 = .ok (.aload_n 0, 1) := by decide +kernel
theorem dX3_house_30 : decode cX3_house 30 = .ok (.iload_n 1, 1) := by decide +kernel
theorem dX3_house_31 : decode cX3_house 31 = .ok (.invokevirtual 238, 3) := by decide +kernel
theorem dX3_house_34 : decode cX3_house 34 = .ok (.ireturn, 1) := by decide +kernel
theorem dX3_isSound_0 : decode cX3_isSound 0 = .ok (.aload_n 0, 1) := by decide +kernel
theorem dX3_isSound_1 : decode cX3_isSound 1 = .ok (.iconst 0, 1) := by decide +kernel
theorem dX3_isSound_2 : decode cX3_isSound 2 = .ok (.putfield 24, 3) := by decide +kernel
theorem dX3_isSound_5 : decode cX3_isSound 5 = .ok (.iconst 1, 1) := by decide +kernel
theorem dX3_isSound_6 : decode cX3_isSound 6 = .ok (.ireturn, 1) := by decide +kernel
theorem dX3_add_0 : decode cX3_add 0 = .ok (.lload_n 0, 1) := by decide +kernel
theorem dX3_add_1 : decode cX3_add 1 = .ok (.ldc2_w 157, 3) := by decide +kernel
theorem dX3_add_4 : decode cX3_add 4 = .ok (.lmul, 1) := by decide +kernel
theorem dX3_add_5 : decode cX3_add 5 = .ok (.lload_n 2, 1) := by decide +kernel
theorem dX3_add_6 : decode cX3_add 6 = .ok (.ladd, 1) := by decide +kernel
theorem dX3_add_7 : decode cX3_add 7 = .ok (.lreturn, 1) := by decide +kernel
theorem dX3_add__0 : decode cX3_add_ 0 = .ok (.lload_n 0, 1) := by decide +kernel
theorem dX3_add__1 : decode cX3_add_ 1 = .ok (.aload_n 2, 1) := by decide +kernel
theorem dX3_add__2 : decode cX3_add_ 2 = .ok (.invokevirtual 241, 3) := by decide +kernel
theorem dX3_add__5 : decode cX3_add_ 5 = .ok (.i2l, 1) := by decide +kernel
theorem dX3_add__6 : decode cX3_add_ 6 = .ok (.invokestatic 246, 3) := by decide +kernel
theorem dX3_add__9 : decode cX3_add_ 9 = .ok (.lstore_n 3, 1) := by decide +kernel
theorem dX3_add__10 : decode cX3_add_ 10 = .ok (.iconst 0, 1) := by decide +kernel
theorem dX3_add__11 : decode cX3_add_ 11 = .ok (.istore 5, 2) := by decide +kernel
theorem dX3_add__13 : decode cX3_add_ 13 = .ok (.iload 5, 2) := by decide +kernel
theorem dX3_add__15 : decode cX3_add_ 15 = .ok (.aload_n 2, 1) := by decide +kernel
theorem dX3_add__16 : decode cX3_add_ 16 = .ok (.invokevirtual 241, 3) := by decide +kernel
theorem dX3_add__19 : decode cX3_add_ 19 = .ok (.if_icmp .ge 21, 3) := by decide +kernel
theorem dX3_add__22 : decode cX3_add_ 22 = .ok (.lload_n 3, 1) := by decide +kernel
theorem dX3_add__23 : decode cX3_add_ 23 = .ok (.aload_n 2, 1) := by decide +kernel
theorem dX3_add__24 : decode cX3_add_ 24 = .ok (.iload 5, 2) := by decide +kernel
theorem dX3_add__26 : decode cX3_add_ 26 = .ok (.invokevirtual 250, 3) := by decide +kernel
theorem dX3_add__29 : decode cX3_add_ 29 = .ok (.i2l, 1) := by decide +kernel
theorem dX3_add__30 : decode cX3_add_ 30 = .ok (.invokestatic 246, 3) := by decide +kernel
theorem dX3_add__33 : decode cX3_add_ 33 = .ok (.lstore_n 3, 1) := by decide +kernel
theorem dX3_add__34 : decode cX3_add_ 34 = .ok (.iinc 5 1, 3) := by decide +kernel
theorem dX3_add__37 : decode cX3_add_ 37 = .ok (.goto (-24), 3) := by decide +kernel
theorem dX3_add__40 : decode cX3_add_ 40 = .ok (.lload_n 3, 1) := by decide +kernel
theorem dX3_add__41 : decode cX3_add_ 41 = .ok (.lreturn, 1) := by decide +kernel
theorem dX3_digest_0 : decode cX3_digest 0 = .ok (.aload_n 0, 1) := by decide +kernel
theorem dX3_digest_1 : decode cX3_digest 1 = .ok (.iconst 0, 1) := by decide +kernel
theorem dX3_digest_2 : decode cX3_digest 2 = .ok (.putfield 24, 3) := by decide +kernel
theorem dX3_digest_5 : decode cX3_digest 5 = .ok (.ldc2_w 254, 3) := by decide +kernel
theorem dX3_digest_8 : decode cX3_digest 8 = .ok (.lstore_n 1, 1) := by decide +kernel
theorem dX3_digest_9 : decode cX3_digest 9 = .ok (.iconst 0, 1) := by decide +kernel
theorem dX3_digest_10 : decode cX3_digest 10 = .ok (.istore_n 3, 1) := by decide +kernel
theorem dX3_digest_11 : decode cX3_digest 11 = .ok (.iload_n 3, 1) := by decide +kernel
theorem dX3_digest_12 : decode cX3_digest 12 = .ok (.iconst 4, 1) := by decide +kernel
theorem dX3_digest_13 : decode cX3_digest 13 = .ok (.if_icmp .ge 70, 3) := by decide +kernel
theorem dX3_digest_16 : decode cX3_digest 16 = .ok (.iconst 0, 1) := by decide +kernel
theorem dX3_digest_17 : decode cX3_digest 17 = .ok (.istore 4, 2) := by decide +kernel
theorem dX3_digest_19 : decode cX3_digest 19 = .ok (.iload 4, 2) := by decide +kernel
theorem dX3_digest_21 : decode cX3_digest 21 = .ok (.bipush 8, 2) := by decide +kernel
theorem dX3_digest_23 : decode cX3_digest 23 = .ok (.if_icmp .ge 22, 3) := by decide +kernel
theorem dX3_digest_26 : decode cX3_digest 26 = .ok (.lload_n 1, 1) := by decide +kernel
theorem dX3_digest_27 : decode cX3_digest 27 = .ok (.aload_n 0, 1) := by decide +kernel
theorem dX3_digest_28 : decode cX3_digest 28 = .ok (.iload_n 3, 1) := by decide +kernel
theorem dX3_digest_29 : decode cX3_digest 29 = .ok (.iload 4, 2) := by decide +kernel
theorem dX3_digest_31 : decode cX3_digest 31 = .ok (.invokevirtual 189, 3) := by decide +kernel
theorem dX3_digest_34 : decode cX3_digest 34 = .ok (.i2l, 1) := by decide +kernel
theorem dX3_digest_35 : decode cX3_digest 35 = .ok (.invokestatic 246, 3) := by decide +kernel
theorem dX3_digest_38 : decode cX3_digest 38 = .ok (.lstore_n 1, 1) := by decide +kernel
theorem dX3_digest_39 : decode cX3_digest 39 = .ok (.iinc 4 1, 3) := by decide +kernel
theorem dX3_digest_42 : decode cX3_digest 42 = .ok (.goto (-23), 3) := by decide +kernel
theorem dX3_digest_45 : decode cX3_digest 45 = .ok (.lload_n 1, 1) := by decide +kernel
theorem dX3_digest_46 : decode cX3_digest 46 = .ok (.new 194, 3) := by decide +kernel
theorem dX3_digest_49 : decode cX3_digest 49 = .ok (.dup, 1) := by decide +kernel
theorem dX3_digest_50 : decode cX3_digest 50 = .ok (.invokespecial 196, 3) := by decide +kernel
theorem dX3_digest_53 : decode cX3_digest 53 = .ok (.ldc 192, 2) := by decide +kernel
theorem dX3_digest_55 : decode cX3_digest 55 = .ok (.invokevirtual 197, 3) := by decide +kernel
theorem dX3_digest_58 : decode cX3_digest 58 = .ok (.aload_n 0, 1) := by decide +kernel
theorem dX3_digest_59 : decode cX3_digest 59 = .ok (.getfield 9, 3) := by decide +kernel
theorem dX3_digest_62 : decode cX3_digest 62 = .ok (.iload_n 3, 1) := by decide +kernel
theorem dX3_digest_63 : decode cX3_digest 63 = .ok (.aaload, 1) := by decide +kernel
theorem dX3_digest_64 : decode cX3_digest 64 = .ok (.invokestatic 110, 3) := by decide +kernel
theorem dX3_digest_67 : decode cX3_digest 67 = .ok (.invokevirtual 201, 3) := by decide +kernel
theorem dX3_digest_70 : decode cX3_digest 70 = .ok (.invokevirtual 204, 3) := by decide +kernel
theorem dX3_digest_73 : decode cX3_digest 73 = .ok (.invokestatic 256, 3) := by decide +kernel
theorem dX3_digest_76 : decode cX3_digest 76 = .ok (.lstore_n 1, 1) := by decide +kernel
theorem dX3_digest_77 : decode cX3_digest 77 = .ok (.iinc 3 1, 3) := by decide +kernel
theorem dX3_digest_80 : decode cX3_digest 80 = .ok (.goto (-69), 3) := by decide +kernel
theorem dX3_digest_83 : decode cX3_digest 83 = .ok (.iconst 0, 1) := by decide +kernel
theorem dX3_digest_84 : decode cX3_digest 84 = .ok (.istore_n 3, 1) := by decide +kernel
theorem dX3_digest_85 : decode cX3_digest 85 = .ok (.iload_n 3, 1) := by decide +kernel
theorem dX3_digest_86 : decode cX3_digest 86 = .ok (.iconst 4, 1) := by decide +kernel
theorem dX3_digest_87 : decode cX3_digest 87 = .ok (.if_icmp .ge 37, 3) := by decide +kernel
theorem dX3_digest_90 : decode cX3_digest 90 = .ok (.iconst 0, 1) := by decide +kernel
theorem dX3_digest_91 : decode cX3_digest 91 = .ok (.istore 4, 2) := by decide +kernel
theorem dX3_digest_93 : decode cX3_digest 93 = .ok (.iload 4, 2) := by decide +kernel
theorem dX3_digest_95 : decode cX3_digest 95 = .ok (.iconst 5, 1) := by decide +kernel
theorem dX3_digest_96 : decode cX3_digest 96 = .ok (.if_icmp .ge 22, 3) := by decide +kernel
theorem dX3_digest_99 : decode cX3_digest 99 = .ok (.lload_n 1, 1) := by decide +kernel
theorem dX3_digest_100 : decode cX3_digest 100 = .ok (.aload_n 0, 1) := by decide +kernel
theorem dX3_digest_101 : decode cX3_digest 101 = .ok (.iload_n 3, 1) := by decide +kernel
theorem dX3_digest_102 : decode cX3_digest 102 = .ok (.iload 4, 2) := by decide +kernel
theorem dX3_digest_104 : decode cX3_digest 104 = .ok (.invokevirtual 222, 3) := by decide +kernel
theorem dX3_digest_107 : decode cX3_digest 107 = .ok (.i2l, 1) := by decide +kernel
theorem dX3_digest_108 : decode cX3_digest 108 = .ok (.invokestatic 246, 3) := by decide +kernel
theorem dX3_digest_111 : decode cX3_digest 111 = .ok (.lstore_n 1, 1) := by decide +kernel
theorem dX3_digest_112 : decode cX3_digest 112 = .ok (.iinc 4 1, 3) := by decide +kernel
theorem dX3_digest_115 : decode cX3_digest 115 = .ok (.goto (-22), 3) := by decide +kernel
theorem dX3_digest_118 : decode cX3_digest 118 = .ok (.iinc 3 1, 3) := by decide +kernel
theorem dX3_digest_121 : decode cX3_digest 121 = .ok (.goto (-36), 3) := by decide +kernel
theorem dX3_digest_124 : decode cX3_digest 124 = .ok (.iconst 0, 1) := by decide +kernel
theorem dX3_digest_125 : decode cX3_digest 125 = .ok (.istore_n 3, 1) := by decide +kernel
theorem dX3_digest_126 : decode cX3_digest 126 = .ok (.iload_n 3, 1) := by decide +kernel
theorem dX3_digest_127 : decode cX3_digest 127 = .ok (.iconst 4, 1) := by decide +kernel
theorem dX3_digest_128 : decode cX3_digest 128 = .ok (.if_icmp .ge 37, 3) := by decide +kernel
theorem dX3_digest_131 : decode cX3_digest 131 = .ok (.iconst 0, 1) := by decide +kernel
theorem dX3_digest_132 : decode cX3_digest 132 = .ok (.istore 4, 2) := by decide +kernel
theorem dX3_digest_134 : decode cX3_digest 134 = .ok (.iload 4, 2) := by decide +kernel
theorem dX3_digest_136 : decode cX3_digest 136 = .ok (.iconst 5, 1) := by decide +kernel
theorem dX3_digest_137 : decode cX3_digest 137 = .ok (.if_icmp .ge 22, 3) := by decide +kernel
theorem dX3_digest_140 : decode cX3_digest 140 = .ok (.lload_n 1, 1) := by decide +kernel
theorem dX3_digest_141 : decode cX3_digest 141 = .ok (.aload_n 0, 1) := by decide +kernel
theorem dX3_digest_142 : decode cX3_digest 142 = .ok (.iload_n 3, 1) := by decide +kernel
theorem dX3_digest_143 : decode cX3_digest 143 = .ok (.iload 4, 2) := by decide +kernel
theorem dX3_digest_145 : decode cX3_digest 145 = .ok (.invokevirtual 225, 3) := by decide +kernel
theorem dX3_digest_148 : decode cX3_digest 148 = .ok (.i2l, 1) := by decide +kernel
theorem dX3_digest_149 : decode cX3_digest 149 = .ok (.invokestatic 246, 3) := by decide +kernel
theorem dX3_digest_152 : decode cX3_digest 152 = .ok (.lstore_n 1, 1) := by decide +kernel
theorem dX3_digest_153 : decode cX3_digest 153 = .ok (.iinc 4 1, 3) := by decide +kernel
theorem dX3_digest_156 : decode cX3_digest 156 = .ok (.goto (-22), 3) := by decide +kernel
theorem dX3_digest_159 : decode cX3_digest 159 = .ok (.iinc 3 1, 3) := by decide +kernel
theorem dX3_digest_162 : decode cX3_digest 162 = .ok (.goto (-36), 3) := by decide +kernel
theorem dX3_digest_165 : decode cX3_digest 165 = .ok (.iconst 0, 1) := by decide +kernel
theorem dX3_digest_166 : decode cX3_digest 166 = .ok (.istore_n 3, 1) := by decide +kernel
theorem dX3_digest_167 : decode cX3_digest 167 = .ok (.iload_n 3, 1) := by decide +kernel
theorem dX3_digest_168 : decode cX3_digest 168 = .ok (.iconst 4, 1) := by decide +kernel
theorem dX3_digest_169 : decode cX3_digest 169 = .ok (.if_icmp .ge 70, 3) := by decide +kernel
theorem dX3_digest_172 : decode cX3_digest 172 = .ok (.iconst 0, 1) := by decide +kernel
theorem dX3_digest_173 : decode cX3_digest 173 = .ok (.istore 4, 2) := by decide +kernel
theorem dX3_digest_175 : decode cX3_digest 175 = .ok (.iload 4, 2) := by decide +kernel
theorem dX3_digest_177 : decode cX3_digest 177 = .ok (.bipush 6, 2) := by decide +kernel
theorem dX3_digest_179 : decode cX3_digest 179 = .ok (.if_icmp .ge 22, 3) := by decide +kernel
theorem dX3_digest_182 : decode cX3_digest 182 = .ok (.lload_n 1, 1) := by decide +kernel
theorem dX3_digest_183 : decode cX3_digest 183 = .ok (.aload_n 0, 1) := by decide +kernel
theorem dX3_digest_184 : decode cX3_digest 184 = .ok (.iload_n 3, 1) := by decide +kernel
theorem dX3_digest_185 : decode cX3_digest 185 = .ok (.iload 4, 2) := by decide +kernel
theorem dX3_digest_187 : decode cX3_digest 187 = .ok (.invokevirtual 230, 3) := by decide +kernel
theorem dX3_digest_190 : decode cX3_digest 190 = .ok (.i2l, 1) := by decide +kernel
theorem dX3_digest_191 : decode cX3_digest 191 = .ok (.invokestatic 246, 3) := by decide +kernel
theorem dX3_digest_194 : decode cX3_digest 194 = .ok (.lstore_n 1, 1) := by decide +kernel
theorem dX3_digest_195 : decode cX3_digest 195 = .ok (.iinc 4 1, 3) := by decide +kernel
theorem dX3_digest_198 : decode cX3_digest 198 = .ok (.goto (-23), 3) := by decide +kernel
theorem dX3_digest_201 : decode cX3_digest 201 = .ok (.lload_n 1, 1) := by decide +kernel
theorem dX3_digest_202 : decode cX3_digest 202 = .ok (.new 194, 3) := by decide +kernel
theorem dX3_digest_205 : decode cX3_digest 205 = .ok (.dup, 1) := by decide +kernel
theorem dX3_digest_206 : decode cX3_digest 206 = .ok (.invokespecial 196, 3) := by decide +kernel
theorem dX3_digest_209 : decode cX3_digest 209 = .ok (.ldc 192, 2) := by decide +kernel
theorem dX3_digest_211 : decode cX3_digest 211 = .ok (.invokevirtual 197, 3) := by decide +kernel
theorem dX3_digest_214 : decode cX3_digest 214 = .ok (.aload_n 0, 1) := by decide +kernel
theorem dX3_digest_215 : decode cX3_digest 215 = .ok (.getfield 21, 3) := by decide +kernel
theorem dX3_digest_218 : decode cX3_digest 218 = .ok (.iload_n 3, 1) := by decide +kernel
theorem dX3_digest_219 : decode cX3_digest 219 = .ok (.aaload, 1) := by decide +kernel
theorem dX3_digest_220 : decode cX3_digest 220 = .ok (.invokestatic 74, 3) := by decide +kernel
theorem dX3_digest_223 : decode cX3_digest 223 = .ok (.invokevirtual 201, 3) := by decide +kernel
theorem dX3_digest_226 : decode cX3_digest 226 = .ok (.invokevirtual 204, 3) := by decide +kernel
theorem dX3_digest_229 : decode cX3_digest 229 = .ok (.invokestatic 256, 3) := by decide +kernel
theorem dX3_digest_232 : decode cX3_digest 232 = .ok (.lstore_n 1, 1) := by decide +kernel
theorem dX3_digest_233 : decode cX3_digest 233 = .ok (.iinc 3 1, 3) := by decide +kernel
theorem dX3_digest_236 : decode cX3_digest 236 = .ok (.goto (-69), 3) := by decide +kernel
theorem dX3_digest_239 : decode cX3_digest 239 = .ok (.iconst 0, 1) := by decide +kernel
theorem dX3_digest_240 : decode cX3_digest 240 = .ok (.istore_n 3, 1) := by decide +kernel
theorem dX3_digest_241 : decode cX3_digest 241 = .ok (.iload_n 3, 1) := by decide +kernel
theorem dX3_digest_242 : decode cX3_digest 242 = .ok (.iconst 4, 1) := by decide +kernel
theorem dX3_digest_243 : decode cX3_digest 243 = .ok (.if_icmp .ge 77, 3) := by decide +kernel
theorem dX3_digest_246 : decode cX3_digest 246 = .ok (.iconst 0, 1) := by decide +kernel
theorem dX3_digest_247 : decode cX3_digest 247 = .ok (.istore 4, 2) := by decide +kernel
theorem dX3_digest_249 : decode cX3_digest 249 = .ok (.iload 4, 2) := by decide +kernel
theorem dX3_digest_251 : decode cX3_digest 251 = .ok (.iconst 4, 1) := by decide +kernel
theorem dX3_digest_252 : decode cX3_digest 252 = .ok (.if_icmp .ge 62, 3) := by decide +kernel
theorem dX3_digest_255 : decode cX3_digest 255 = .ok (.lload_n 1, 1) := by decide +kernel
theorem dX3_digest_256 : decode cX3_digest 256 = .ok (.aload_n 0, 1) := by decide +kernel
theorem dX3_digest_257 : decode cX3_digest 257 = .ok (.getfield 9, 3) := by decide +kernel
theorem dX3_digest_260 : decode cX3_digest 260 = .ok (.iload_n 3, 1) := by decide +kernel
theorem dX3_digest_261 : decode cX3_digest 261 = .ok (.aaload, 1) := by decide +kernel
theorem dX3_digest_262 : decode cX3_digest 262 = .ok (.invokestatic 110, 3) := by decide +kernel
theorem dX3_digest_265 : decode cX3_digest 265 = .ok (.aload_n 0, 1) := by decide +kernel
theorem dX3_digest_266 : decode cX3_digest 266 = .ok (.getfield 9, 3) := by decide +kernel
theorem dX3_digest_269 : decode cX3_digest 269 = .ok (.iload 4, 2) := by decide +kernel
theorem dX3_digest_271 : decode cX3_digest 271 = .ok (.aaload, 1) := by decide +kernel
theorem dX3_digest_272 : decode cX3_digest 272 = .ok (.invokestatic 110, 3) := by decide +kernel
theorem dX3_digest_275 : decode cX3_digest 275 = .ok (.iconst 0, 1) := by decide +kernel
theorem dX3_digest_276 : decode cX3_digest 276 = .ok (.invokestatic 211, 3) := by decide +kernel
theorem dX3_digest_279 : decode cX3_digest 279 = .ok (.i2l, 1) := by decide +kernel
theorem dX3_digest_280 : decode cX3_digest 280 = .ok (.invokestatic 246, 3) := by decide +kernel
theorem dX3_digest_283 : decode cX3_digest 283 = .ok (.lstore_n 1, 1) := by decide +kernel
theorem dX3_digest_284 : decode cX3_digest 284 = .ok (.lload_n 1, 1) := by decide +kernel
theorem dX3_digest_285 : decode cX3_digest 285 = .ok (.aload_n 0, 1) := by decide +kernel
theorem dX3_digest_286 : decode cX3_digest 286 = .ok (.iload_n 3, 1) := by decide +kernel
theorem dX3_digest_287 : decode cX3_digest 287 = .ok (.iload 4, 2) := by decide +kernel
theorem dX3_digest_289 : decode cX3_digest 289 = .ok (.iconst 0, 1) := by decide +kernel
theorem dX3_digest_290 : decode cX3_digest 290 = .ok (.invokevirtual 218, 3) := by decide +kernel
theorem dX3_digest_293 : decode cX3_digest 293 = .ok (.invokestatic 256, 3) := by decide +kernel
theorem dX3_digest_296 : decode cX3_digest 296 = .ok (.aload_n 0, 1) := by decide +kernel
theorem dX3_digest_297 : decode cX3_digest 297 = .ok (.iload_n 3, 1) := by decide +kernel
theorem dX3_digest_298 : decode cX3_digest 298 = .ok (.iload 4, 2) := by decide +kernel
theorem dX3_digest_300 : decode cX3_digest 300 = .ok (.iconst 1, 1) := by decide +kernel
theorem dX3_digest_301 : decode cX3_digest 301 = .ok (.invokevirtual 218, 3) := by decide +kernel
theorem dX3_digest_304 : decode cX3_digest 304 = .ok (.invokestatic 256, 3) := by decide +kernel
theorem dX3_digest_307 : decode cX3_digest 307 = .ok (.lstore_n 1, 1) := by decide +kernel
theorem dX3_digest_308 : decode cX3_digest 308 = .ok (.iinc 4 1, 3) := by decide +kernel
theorem dX3_digest_311 : decode cX3_digest 311 = .ok (.goto (-62), 3) := by decide +kernel
theorem dX3_digest_314 : decode cX3_digest 314 = .ok (.iinc 3 1, 3) := by decide +kernel
theorem dX3_digest_317 : decode cX3_digest 317 = .ok (.goto (-76), 3) := by decide +kernel
theorem dX3_digest_320 : decode cX3_digest 320 = .ok (.iconst 0, 1) := by decide +kernel
theorem dX3_digest_321 : decode cX3_digest 321 = .ok (.istore_n 3, 1) := by decide +kernel
theorem dX3_digest_322 : decode cX3_digest 322 = .ok (.iload_n 3, 1) := by decide +kernel
theorem dX3_digest_323 : decode cX3_digest 323 = .ok (.iconst 4, 1) := by decide +kernel
theorem dX3_digest_324 : decode cX3_digest 324 = .ok (.if_icmp .ge 50, 3) := by decide +kernel
theorem dX3_digest_327 : decode cX3_digest 327 = .ok (.iconst 0, 1) := by decide +kernel
theorem dX3_digest_328 : decode cX3_digest 328 = .ok (.istore 4, 2) := by decide +kernel
theorem dX3_digest_330 : decode cX3_digest 330 = .ok (.iload 4, 2) := by decide +kernel
theorem dX3_digest_332 : decode cX3_digest 332 = .ok (.iconst 4, 1) := by decide +kernel
theorem dX3_digest_333 : decode cX3_digest 333 = .ok (.if_icmp .ge 35, 3) := by decide +kernel
theorem dX3_digest_336 : decode cX3_digest 336 = .ok (.lload_n 1, 1) := by decide +kernel
theorem dX3_digest_337 : decode cX3_digest 337 = .ok (.aload_n 0, 1) := by decide +kernel
theorem dX3_digest_338 : decode cX3_digest 338 = .ok (.getfield 18, 3) := by decide +kernel
theorem dX3_digest_341 : decode cX3_digest 341 = .ok (.iload 4, 2) := by decide +kernel
theorem dX3_digest_343 : decode cX3_digest 343 = .ok (.aaload, 1) := by decide +kernel
theorem dX3_digest_344 : decode cX3_digest 344 = .ok (.aload_n 0, 1) := by decide +kernel
theorem dX3_digest_345 : decode cX3_digest 345 = .ok (.getfield 15, 3) := by decide +kernel
theorem dX3_digest_348 : decode cX3_digest 348 = .ok (.iload_n 3, 1) := by decide +kernel
theorem dX3_digest_349 : decode cX3_digest 349 = .ok (.iaload, 1) := by decide +kernel
theorem dX3_digest_350 : decode cX3_digest 350 = .ok (.i2l, 1) := by decide +kernel
theorem dX3_digest_351 : decode cX3_digest 351 = .ok (.invokestatic 82, 3) := by decide +kernel
theorem dX3_digest_354 : decode cX3_digest 354 = .ok (.invokestatic 78, 3) := by decide +kernel
theorem dX3_digest_357 : decode cX3_digest 357 = .ok (.i2l, 1) := by decide +kernel
theorem dX3_digest_358 : decode cX3_digest 358 = .ok (.invokestatic 246, 3) := by decide +kernel
theorem dX3_digest_361 : decode cX3_digest 361 = .ok (.lstore_n 1, 1) := by decide +kernel
theorem dX3_digest_362 : decode cX3_digest 362 = .ok (.iinc 4 1, 3) := by decide +kernel
theorem dX3_digest_365 : decode cX3_digest 365 = .ok (.goto (-35), 3) := by decide +kernel
theorem dX3_digest_368 : decode cX3_digest 368 = .ok (.iinc 3 1, 3) := by decide +kernel
theorem dX3_digest_371 : decode cX3_digest 371 = .ok (.goto (-49), 3) := by decide +kernel
theorem dX3_digest_374 : decode cX3_digest 374 = .ok (.iconst 0, 1) := by decide +kernel
theorem dX3_digest_375 : decode cX3_digest 375 = .ok (.istore_n 3, 1) := by decide +kernel
theorem dX3_digest_376 : decode cX3_digest 376 = .ok (.iload_n 3, 1) := by decide +kernel
theorem dX3_digest_377 : decode cX3_digest 377 = .ok (.iconst 5, 1) := by decide +kernel
theorem dX3_digest_378 : decode cX3_digest 378 = .ok (.if_icmp .ge 20, 3) := by decide +kernel
theorem dX3_digest_381 : decode cX3_digest 381 = .ok (.lload_n 1, 1) := by decide +kernel
theorem dX3_digest_382 : decode cX3_digest 382 = .ok (.aload_n 0, 1) := by decide +kernel
theorem dX3_digest_383 : decode cX3_digest 383 = .ok (.iload_n 3, 1) := by decide +kernel
theorem dX3_digest_384 : decode cX3_digest 384 = .ok (.invokevirtual 238, 3) := by decide +kernel
theorem dX3_digest_387 : decode cX3_digest 387 = .ok (.i2l, 1) := by decide +kernel
theorem dX3_digest_388 : decode cX3_digest 388 = .ok (.invokestatic 246, 3) := by decide +kernel
theorem dX3_digest_391 : decode cX3_digest 391 = .ok (.lstore_n 1, 1) := by decide +kernel
theorem dX3_digest_392 : decode cX3_digest 392 = .ok (.iinc 3 1, 3) := by decide +kernel
theorem dX3_digest_395 : decode cX3_digest 395 = .ok (.goto (-19), 3) := by decide +kernel
theorem dX3_digest_398 : decode cX3_digest 398 = .ok (.lload_n 1, 1) := by decide +kernel
theorem dX3_digest_399 : decode cX3_digest 399 = .ok (.lconst 1, 1) := by decide +kernel
theorem dX3_digest_400 : decode cX3_digest 400 = .ok (.invokestatic 246, 3) := by decide +kernel
theorem dX3_digest_403 : decode cX3_digest 403 = .ok (.lreturn, 1) := by decide +kernel
theorem dJ5_init_d00df_0 : decode cJ5_init_d00df 0 = .ok (.aload_n 0, 1) := by decide +kernel
theorem dJ5_init_d00df_1 : decode cJ5_init_d00df 1 = .ok (.invokespecial 3, 3) := by decide +kernel
theorem dJ5_init_d00df_4 : decode cJ5_init_d00df 4 = .ok (.getstatic 18, 3) := by decide +kernel
theorem dJ5_init_d00df_7 : decode cJ5_init_d00df 7 = .ok (.ifCond .eq 18, 3) := by decide +kernel
theorem dJ5_init_d00df_10 : decode cJ5_init_d00df 10 = .ok (.aload_n 0, 1) := by decide +kernel
theorem dJ5_init_d00df_11 : decode cJ5_init_d00df 11 = .ok (.iload_n 1, 1) := by decide +kernel
theorem dJ5_init_d00df_12 : decode cJ5_init_d00df 12 = .ok (.newarray .byte, 2) := by decide +kernel
theorem dJ5_init_d00df_14 : decode cJ5_init_d00df 14 = .ok (.putfield 15, 3) := by decide +kernel
theorem dJ5_init_d00df_17 : decode cJ5_init_d00df 17 = .ok (.aload_n 0, 1) := by decide +kernel
theorem dJ5_init_d00df_18 : decode cJ5_init_d00df 18 = .ok (.iconst 0, 1) := by decide +kernel
theorem dJ5_init_d00df_19 : decode cJ5_init_d00df 19 = .ok (.putfield 22, 3) := by decide +kernel
theorem dJ5_init_d00df_22 : decode cJ5_init_d00df 22 = .ok (.goto 16, 3) := by decide +kernel
theorem dJ5_init_d00df_25 : decode cJ5_init_d00df 25 = .ok (.aload_n 0, 1) := by decide +kernel
theorem dJ5_init_d00df_26 : decode cJ5_init_d00df 26 = .ok (.iload_n 1, 1) := by decide +kernel
theorem dJ5_init_d00df_27 : decode cJ5_init_d00df 27 = .ok (.invokestatic 26, 3) := by decide +kernel
theorem dJ5_init_d00df_30 : decode cJ5_init_d00df 30 = .ok (.putfield 15, 3) := by decide +kernel
theorem dJ5_init_d00df_33 : decode cJ5_init_d00df 33 = .ok (.aload_n 0, 1) := by decide +kernel
theorem dJ5_init_d00df_34 : decode cJ5_init_d00df 34 = .ok (.iconst 1, 1) := by decide +kernel
theorem dJ5_init_d00df_35 : decode cJ5_init_d00df 35 = .ok (.putfield 22, 3) := by decide +kernel
theorem dJ5_init_d00df_38 : decode cJ5_init_d00df 38 = .ok (.return_, 1) := by decide +kernel
theorem dJ5_length_8abf5_0 : decode cJ5_length_8abf5 0 = .ok (.aload_n 0, 1) := by decide +kernel
theorem dJ5_length_8abf5_1 : decode cJ5_length_8abf5 1 = .ok (.getfield 79, 3) := by decide +kernel
theorem dJ5_length_8abf5_4 : decode cJ5_length_8abf5 4 = .ok (.ireturn, 1) := by decide +kernel
theorem dJ5_ensureCapacityInternal_d00df_0 : decode cJ5_ensureCapacityInternal_d00df 0 = .ok (.aload_n 0, 1) := by decide +kernel
theorem dJ5_ensureCapacityInternal_d00df_1 : decode cJ5_ensureCapacityInternal_d00df 1 = .ok (.getfield 15, 3) := by decide +kernel
theorem dJ5_ensureCapacityInternal_d00df_4 : decode cJ5_ensureCapacityInternal_d00df 4 = .ok (.arraylength, 1) := by decide +kernel
theorem dJ5_ensureCapacityInternal_d00df_5 : decode cJ5_ensureCapacityInternal_d00df 5 = .ok (.aload_n 0, 1) := by decide +kernel
theorem dJ5_ensureCapacityInternal_d00df_6 : decode cJ5_ensureCapacityInternal_d00df 6 = .ok (.getfield 22, 3) := by decide +kernel
theorem dJ5_ensureCapacityInternal_d00df_9 : decode cJ5_ensureCapacityInternal_d00df 9 = .ok (.ishr, 1) := by decide +kernel
theorem dJ5_ensureCapacityInternal_d00df_10 : decode cJ5_ensureCapacityInternal_d00df 10 = .ok (.istore_n 2, 1) := by decide +kernel
theorem dJ5_ensureCapacityInternal_d00df_11 : decode cJ5_ensureCapacityInternal_d00df 11 = .ok (.iload_n 1, 1) := by decide +kernel
theorem dJ5_ensureCapacityInternal_d00df_12 : decode cJ5_ensureCapacityInternal_d00df 12 = .ok (.iload_n 2, 1) := by decide +kernel
theorem dJ5_ensureCapacityInternal_d00df_13 : decode cJ5_ensureCapacityInternal_d00df 13 = .ok (.isub, 1) := by decide +kernel
theorem dJ5_ensureCapacityInternal_d00df_14 : decode cJ5_ensureCapacityInternal_d00df 14 = .ok (.ifCond .le 24, 3) := by decide +kernel
theorem dJ5_ensureCapacityInternal_d00df_17 : decode cJ5_ensureCapacityInternal_d00df 17 = .ok (.aload_n 0, 1) := by decide +kernel
theorem dJ5_ensureCapacityInternal_d00df_18 : decode cJ5_ensureCapacityInternal_d00df 18 = .ok (.aload_n 0, 1) := by decide +kernel
theorem dJ5_ensureCapacityInternal_d00df_19 : decode cJ5_ensureCapacityInternal_d00df 19 = .ok (.getfield 15, 3) := by decide +kernel
theorem dJ5_ensureCapacityInternal_d00df_22 : decode cJ5_ensureCapacityInternal_d00df 22 = .ok (.aload_n 0, 1) := by decide +kernel
theorem dJ5_ensureCapacityInternal_d00df_23 : decode cJ5_ensureCapacityInternal_d00df 23 = .ok (.iload_n 1, 1) := by decide +kernel
theorem dJ5_ensureCapacityInternal_d00df_24 : decode cJ5_ensureCapacityInternal_d00df 24 = .ok (.invokevirtual 104, 3) := by decide +kernel
theorem dJ5_ensureCapacityInternal_d00df_27 : decode cJ5_ensureCapacityInternal_d00df 27 = .ok (.aload_n 0, 1) := by decide +kernel
theorem dJ5_ensureCapacityInternal_d00df_28 : decode cJ5_ensureCapacityInternal_d00df 28 = .ok (.getfield 22, 3) := by decide +kernel
theorem dJ5_ensureCapacityInternal_d00df_31 : decode cJ5_ensureCapacityInternal_d00df 31 = .ok (.ishl, 1) := by decide +kernel
theorem dJ5_ensureCapacityInternal_d00df_32 : decode cJ5_ensureCapacityInternal_d00df 32 = .ok (.invokestatic 108, 3) := by decide +kernel
theorem dJ5_ensureCapacityInternal_d00df_35 : decode cJ5_ensureCapacityInternal_d00df 35 = .ok (.putfield 15, 3) := by decide +kernel
theorem dJ5_ensureCapacityInternal_d00df_38 : decode cJ5_ensureCapacityInternal_d00df 38 = .ok (.return_, 1) := by decide +kernel
theorem dJ5_newCapacity_0f7a4_0 : decode cJ5_newCapacity_0f7a4 0 = .ok (.aload_n 0, 1) := by decide +kernel
theorem dJ5_newCapacity_0f7a4_1 : decode cJ5_newCapacity_0f7a4 1 = .ok (.getfield 15, 3) := by decide +kernel
theorem dJ5_newCapacity_0f7a4_4 : decode cJ5_newCapacity_0f7a4 4 = .ok (.arraylength, 1) := by decide +kernel
theorem dJ5_newCapacity_0f7a4_5 : decode cJ5_newCapacity_0f7a4 5 = .ok (.istore_n 2, 1) := by decide +kernel
theorem dJ5_newCapacity_0f7a4_6 : decode cJ5_newCapacity_0f7a4 6 = .ok (.iload_n 1, 1) := by decide +kernel
theorem dJ5_newCapacity_0f7a4_7 : decode cJ5_newCapacity_0f7a4 7 = .ok (.aload_n 0, 1) := by decide +kernel
theorem dJ5_newCapacity_0f7a4_8 : decode cJ5_newCapacity_0f7a4 8 = .ok (.getfield 22, 3) := by decide +kernel
theorem dJ5_newCapacity_0f7a4_11 : decode cJ5_newCapacity_0f7a4 11 = .ok (.ishl, 1) := by decide +kernel
theorem dJ5_newCapacity_0f7a4_12 : decode cJ5_newCapacity_0f7a4 12 = .ok (.istore_n 3, 1) := by decide +kernel
theorem dJ5_newCapacity_0f7a4_13 : decode cJ5_newCapacity_0f7a4 13 = .ok (.iload_n 3, 1) := by decide +kernel
theorem dJ5_newCapacity_0f7a4_14 : decode cJ5_newCapacity_0f7a4 14 = .ok (.iload_n 2, 1) := by decide +kernel
theorem dJ5_newCapacity_0f7a4_15 : decode cJ5_newCapacity_0f7a4 15 = .ok (.isub, 1) := by decide +kernel
theorem dJ5_newCapacity_0f7a4_16 : decode cJ5_newCapacity_0f7a4 16 = .ok (.istore 4, 2) := by decide +kernel
theorem dJ5_newCapacity_0f7a4_18 : decode cJ5_newCapacity_0f7a4 18 = .ok (.iload_n 2, 1) := by decide +kernel
theorem dJ5_newCapacity_0f7a4_19 : decode cJ5_newCapacity_0f7a4 19 = .ok (.iload 4, 2) := by decide +kernel
theorem dJ5_newCapacity_0f7a4_21 : decode cJ5_newCapacity_0f7a4 21 = .ok (.iload_n 2, 1) := by decide +kernel
theorem dJ5_newCapacity_0f7a4_22 : decode cJ5_newCapacity_0f7a4 22 = .ok (.iconst 2, 1) := by decide +kernel
theorem dJ5_newCapacity_0f7a4_23 : decode cJ5_newCapacity_0f7a4 23 = .ok (.aload_n 0, 1) := by decide +kernel
theorem dJ5_newCapacity_0f7a4_24 : decode cJ5_newCapacity_0f7a4 24 = .ok (.getfield 22, 3) := by decide +kernel
theorem dJ5_newCapacity_0f7a4_27 : decode cJ5_newCapacity_0f7a4 27 = .ok (.ishl, 1) := by decide +kernel
theorem dJ5_newCapacity_0f7a4_28 : decode cJ5_newCapacity_0f7a4 28 = .ok (.iadd, 1) := by decide +kernel
theorem dJ5_newCapacity_0f7a4_29 : decode cJ5_newCapacity_0f7a4 29 = .ok (.invokestatic 114, 3) := by decide +kernel
theorem dJ5_newCapacity_0f7a4_32 : decode cJ5_newCapacity_0f7a4 32 = .ok (.istore 5, 2) := by decide +kernel
theorem dJ5_newCapacity_0f7a4_34 : decode cJ5_newCapacity_0f7a4 34 = .ok (.iload 5, 2) := by decide +kernel
theorem dJ5_newCapacity_0f7a4_36 : decode cJ5_newCapacity_0f7a4 36 = .ok (.ldc 39, 2) := by decide +kernel
theorem dJ5_newCapacity_0f7a4_38 : decode cJ5_newCapacity_0f7a4 38 = .ok (.if_icmp .ne 13, 3) := by decide +kernel
theorem dJ5_newCapacity_0f7a4_41 : decode cJ5_newCapacity_0f7a4 41 = .ok (.new 120, 3) := by decide +kernel
theorem dJ5_newCapacity_0f7a4_44 : decode cJ5_newCapacity_0f7a4 44 = .ok (.dup, 1) := by decide +kernel
theorem dJ5_newCapacity_0f7a4_45 : decode cJ5_newCapacity_0f7a4 45 = .ok (.ldc 122, 2) := by decide +kernel
theorem dJ5_newCapacity_0f7a4_47 : decode cJ5_newCapacity_0f7a4 47 = .ok (.invokespecial 124, 3) := by decide +kernel
theorem dJ5_newCapacity_0f7a4_50 : decode cJ5_newCapacity_0f7a4 50 = .ok (.athrow, 1) := by decide +kernel
theorem dJ5_newCapacity_0f7a4_51 : decode cJ5_newCapacity_0f7a4 51 = .ok (.iload 5, 2) := by decide +kernel
theorem dJ5_newCapacity_0f7a4_53 : decode cJ5_newCapacity_0f7a4 53 = .ok (.aload_n 0, 1) := by decide +kernel
theorem dJ5_newCapacity_0f7a4_54 : decode cJ5_newCapacity_0f7a4 54 = .ok (.getfield 22, 3) := by decide +kernel
theorem dJ5_newCapacity_0f7a4_57 : decode cJ5_newCapacity_0f7a4 57 = .ok (.ishr, 1) := by decide +kernel
theorem dJ5_newCapacity_0f7a4_58 : decode cJ5_newCapacity_0f7a4 58 = .ok (.ireturn, 1) := by decide +kernel
theorem dJ5_inflate_da8c8_0 : decode cJ5_inflate_da8c8 0 = .ok (.aload_n 0, 1) := by decide +kernel
theorem dJ5_inflate_da8c8_1 : decode cJ5_inflate_da8c8 1 = .ok (.invokevirtual 83, 3) := by decide +kernel
theorem dJ5_inflate_da8c8_4 : decode cJ5_inflate_da8c8 4 = .ok (.ifCond .ne 4, 3) := by decide +kernel
theorem dJ5_inflate_da8c8_7 : decode cJ5_inflate_da8c8 7 = .ok (.return_, 1) := by decide +kernel
theorem dJ5_inflate_da8c8_8 : decode cJ5_inflate_da8c8 8 = .ok (.aload_n 0, 1) := by decide +kernel
theorem dJ5_inflate_da8c8_9 : decode cJ5_inflate_da8c8 9 = .ok (.getfield 15, 3) := by decide +kernel
theorem dJ5_inflate_da8c8_12 : decode cJ5_inflate_da8c8 12 = .ok (.arraylength, 1) := by decide +kernel
theorem dJ5_inflate_da8c8_13 : decode cJ5_inflate_da8c8 13 = .ok (.invokestatic 26, 3) := by decide +kernel
theorem dJ5_inflate_da8c8_16 : decode cJ5_inflate_da8c8 16 = .ok (.astore_n 1, 1) := by decide +kernel
theorem dJ5_inflate_da8c8_17 : decode cJ5_inflate_da8c8 17 = .ok (.aload_n 0, 1) := by decide +kernel
theorem dJ5_inflate_da8c8_18 : decode cJ5_inflate_da8c8 18 = .ok (.getfield 15, 3) := by decide +kernel
theorem dJ5_inflate_da8c8_21 : decode cJ5_inflate_da8c8 21 = .ok (.iconst 0, 1) := by decide +kernel
theorem dJ5_inflate_da8c8_22 : decode cJ5_inflate_da8c8 22 = .ok (.aload_n 1, 1) := by decide +kernel
theorem dJ5_inflate_da8c8_23 : decode cJ5_inflate_da8c8 23 = .ok (.iconst 0, 1) := by decide +kernel
theorem dJ5_inflate_da8c8_24 : decode cJ5_inflate_da8c8 24 = .ok (.aload_n 0, 1) := by decide +kernel
theorem dJ5_inflate_da8c8_25 : decode cJ5_inflate_da8c8 25 = .ok (.getfield 79, 3) := by decide +kernel
theorem dJ5_inflate_da8c8_28 : decode cJ5_inflate_da8c8 28 = .ok (.invokestatic 125, 3) := by decide +kernel
theorem dJ5_inflate_da8c8_31 : decode cJ5_inflate_da8c8 31 = .ok (.aload_n 0, 1) := by decide +kernel
theorem dJ5_inflate_da8c8_32 : decode cJ5_inflate_da8c8 32 = .ok (.aload_n 1, 1) := by decide +kernel
theorem dJ5_inflate_da8c8_33 : decode cJ5_inflate_da8c8 33 = .ok (.putfield 15, 3) := by decide +kernel
theorem dJ5_inflate_da8c8_36 : decode cJ5_inflate_da8c8 36 = .ok (.aload_n 0, 1) := by decide +kernel
theorem dJ5_inflate_da8c8_37 : decode cJ5_inflate_da8c8 37 = .ok (.iconst 1, 1) := by decide +kernel
theorem dJ5_inflate_da8c8_38 : decode cJ5_inflate_da8c8 38 = .ok (.putfield 22, 3) := by decide +kernel
theorem dJ5_inflate_da8c8_41 : decode cJ5_inflate_da8c8 41 = .ok (.return_, 1) := by decide +kernel
theorem dJ5_setLength_d00df_0 : decode cJ5_setLength_d00df 0 = .ok (.iload_n 1, 1) := by decide +kernel
theorem dJ5_setLength_d00df_1 : decode cJ5_setLength_d00df 1 = .ok (.ifCond .ge 12, 3) := by decide +kernel
theorem dJ5_setLength_d00df_4 : decode cJ5_setLength_d00df 4 = .ok (.new 129, 3) := by decide +kernel
theorem dJ5_setLength_d00df_7 : decode cJ5_setLength_d00df 7 = .ok (.dup, 1) := by decide +kernel
theorem dJ5_setLength_d00df_8 : decode cJ5_setLength_d00df 8 = .ok (.iload_n 1, 1) := by decide +kernel
theorem dJ5_setLength_d00df_9 : decode cJ5_setLength_d00df 9 = .ok (.invokespecial 131, 3) := by decide +kernel
theorem dJ5_setLength_d00df_12 : decode cJ5_setLength_d00df 12 = .ok (.athrow, 1) := by decide +kernel
theorem dJ5_setLength_d00df_13 : decode cJ5_setLength_d00df 13 = .ok (.aload_n 0, 1) := by decide +kernel
theorem dJ5_setLength_d00df_14 : decode cJ5_setLength_d00df 14 = .ok (.iload_n 1, 1) := by decide +kernel
theorem dJ5_setLength_d00df_15 : decode cJ5_setLength_d00df 15 = .ok (.invokevirtual 100, 3) := by decide +kernel
theorem dJ5_setLength_d00df_18 : decode cJ5_setLength_d00df 18 = .ok (.aload_n 0, 1) := by decide +kernel
theorem dJ5_setLength_d00df_19 : decode cJ5_setLength_d00df 19 = .ok (.getfield 79, 3) := by decide +kernel
theorem dJ5_setLength_d00df_22 : decode cJ5_setLength_d00df 22 = .ok (.iload_n 1, 1) := by decide +kernel
theorem dJ5_setLength_d00df_23 : decode cJ5_setLength_d00df 23 = .ok (.if_icmp .ge 40, 3) := by decide +kernel
theorem dJ5_setLength_d00df_26 : decode cJ5_setLength_d00df 26 = .ok (.aload_n 0, 1) := by decide +kernel
theorem dJ5_setLength_d00df_27 : decode cJ5_setLength_d00df 27 = .ok (.invokevirtual 83, 3) := by decide +kernel
theorem dJ5_setLength_d00df_30 : decode cJ5_setLength_d00df 30 = .ok (.ifCond .eq 18, 3) := by decide +kernel
theorem dJ5_setLength_d00df_33 : decode cJ5_setLength_d00df 33 = .ok (.aload_n 0, 1) := by decide +kernel
theorem dJ5_setLength_d00df_34 : decode cJ5_setLength_d00df 34 = .ok (.getfield 15, 3) := by decide +kernel
theorem dJ5_setLength_d00df_37 : decode cJ5_setLength_d00df 37 = .ok (.aload_n 0, 1) := by decide +kernel
theorem dJ5_setLength_d00df_38 : decode cJ5_setLength_d00df 38 = .ok (.getfield 79, 3) := by decide +kernel
theorem dJ5_setLength_d00df_41 : decode cJ5_setLength_d00df 41 = .ok (.iload_n 1, 1) := by decide +kernel
theorem dJ5_setLength_d00df_42 : decode cJ5_setLength_d00df 42 = .ok (.invokestatic 133, 3) := by decide +kernel
theorem dJ5_setLength_d00df_45 : decode cJ5_setLength_d00df 45 = .ok (.goto 31, 3) := by decide +kernel
theorem dJ5_setLength_d00df_48 : decode cJ5_setLength_d00df 48 = .ok (.aload_n 0, 1) := by decide +kernel
theorem dJ5_setLength_d00df_49 : decode cJ5_setLength_d00df 49 = .ok (.getfield 15, 3) := by decide +kernel
theorem dJ5_setLength_d00df_52 : decode cJ5_setLength_d00df 52 = .ok (.aload_n 0, 1) := by decide +kernel
theorem dJ5_setLength_d00df_53 : decode cJ5_setLength_d00df 53 = .ok (.getfield 79, 3) := by decide +kernel
theorem dJ5_setLength_d00df_56 : decode cJ5_setLength_d00df 56 = .ok (.iload_n 1, 1) := by decide +kernel
theorem dJ5_setLength_d00df_57 : decode cJ5_setLength_d00df 57 = .ok (.invokestatic 137, 3) := by decide +kernel
theorem dJ5_setLength_d00df_60 : decode cJ5_setLength_d00df 60 = .ok (.goto 16, 3) := by decide +kernel
theorem dJ5_setLength_d00df_63 : decode cJ5_setLength_d00df 63 = .ok (.aload_n 0, 1) := by decide +kernel
theorem dJ5_setLength_d00df_64 : decode cJ5_setLength_d00df 64 = .ok (.getfield 79, 3) := by decide +kernel
theorem dJ5_setLength_d00df_67 : decode cJ5_setLength_d00df 67 = .ok (.iload_n 1, 1) := by decide +kernel
theorem dJ5_setLength_d00df_68 : decode cJ5_setLength_d00df 68 = .ok (.if_icmp .le 8, 3) := by decide +kernel
theorem dJ5_setLength_d00df_71 : decode cJ5_setLength_d00df 71 = .ok (.aload_n 0, 1) := by decide +kernel
theorem dJ5_setLength_d00df_72 : decode cJ5_setLength_d00df 72 = .ok (.iconst 1, 1) := by decide +kernel
theorem dJ5_setLength_d00df_73 : decode cJ5_setLength_d00df 73 = .ok (.putfield 73, 3) := by decide +kernel
theorem dJ5_setLength_d00df_76 : decode cJ5_setLength_d00df 76 = .ok (.aload_n 0, 1) := by decide +kernel
theorem dJ5_setLength_d00df_77 : decode cJ5_setLength_d00df 77 = .ok (.iload_n 1, 1) := by decide +kernel
theorem dJ5_setLength_d00df_78 : decode cJ5_setLength_d00df 78 = .ok (.putfield 79, 3) := by decide +kernel
theorem dJ5_setLength_d00df_81 : decode cJ5_setLength_d00df 81 = .ok (.return_, 1) := by decide +kernel
theorem dJ5_charAt_5068e_0 : decode cJ5_charAt_5068e 0 = .ok (.aload_n 0, 1) := by decide +kernel
theorem dJ5_charAt_5068e_1 : decode cJ5_charAt_5068e 1 = .ok (.getfield 22, 3) := by decide +kernel
theorem dJ5_charAt_5068e_4 : decode cJ5_charAt_5068e 4 = .ok (.istore_n 2, 1) := by decide +kernel
theorem dJ5_charAt_5068e_5 : decode cJ5_charAt_5068e 5 = .ok (.aload_n 0, 1) := by decide +kernel
theorem dJ5_charAt_5068e_6 : decode cJ5_charAt_5068e 6 = .ok (.getfield 15, 3) := by decide +kernel
theorem dJ5_charAt_5068e_9 : decode cJ5_charAt_5068e 9 = .ok (.astore_n 3, 1) := by decide +kernel
theorem dJ5_charAt_5068e_10 : decode cJ5_charAt_5068e 10 = .ok (.aload_n 0, 1) := by decide +kernel
theorem dJ5_charAt_5068e_11 : decode cJ5_charAt_5068e 11 = .ok (.getfield 79, 3) := by decide +kernel
theorem dJ5_charAt_5068e_14 : decode cJ5_charAt_5068e 14 = .ok (.aload_n 3, 1) := by decide +kernel
theorem dJ5_charAt_5068e_15 : decode cJ5_charAt_5068e 15 = .ok (.arraylength, 1) := by decide +kernel
theorem dJ5_charAt_5068e_16 : decode cJ5_charAt_5068e 16 = .ok (.iload_n 2, 1) := by decide +kernel
theorem dJ5_charAt_5068e_17 : decode cJ5_charAt_5068e 17 = .ok (.ishr, 1) := by decide +kernel
theorem dJ5_charAt_5068e_18 : decode cJ5_charAt_5068e 18 = .ok (.invokestatic 138, 3) := by decide +kernel
theorem dJ5_charAt_5068e_21 : decode cJ5_charAt_5068e 21 = .ok (.istore 4, 2) := by decide +kernel
theorem dJ5_charAt_5068e_23 : decode cJ5_charAt_5068e 23 = .ok (.iload_n 1, 1) := by decide +kernel
theorem dJ5_charAt_5068e_24 : decode cJ5_charAt_5068e 24 = .ok (.iload 4, 2) := by decide +kernel
theorem dJ5_charAt_5068e_26 : decode cJ5_charAt_5068e 26 = .ok (.invokestatic 144, 3) := by decide +kernel
theorem dJ5_charAt_5068e_29 : decode cJ5_charAt_5068e 29 = .ok (.iload_n 2, 1) := by decide +kernel
theorem dJ5_charAt_5068e_30 : decode cJ5_charAt_5068e 30 = .ok (.ifCond .ne 12, 3) := by decide +kernel
theorem dJ5_charAt_5068e_33 : decode cJ5_charAt_5068e 33 = .ok (.aload_n 3, 1) := by decide +kernel
theorem dJ5_charAt_5068e_34 : decode cJ5_charAt_5068e 34 = .ok (.iload_n 1, 1) := by decide +kernel
theorem dJ5_charAt_5068e_35 : decode cJ5_charAt_5068e 35 = .ok (.baload, 1) := by decide +kernel
theorem dJ5_charAt_5068e_36 : decode cJ5_charAt_5068e 36 = .ok (.sipush 255, 3) := by decide +kernel
theorem dJ5_charAt_5068e_39 : decode cJ5_charAt_5068e 39 = .ok (.iand, 1) := by decide +kernel
theorem dJ5_charAt_5068e_40 : decode cJ5_charAt_5068e 40 = .ok (.i2c, 1) := by decide +kernel
theorem dJ5_charAt_5068e_41 : decode cJ5_charAt_5068e 41 = .ok (.ireturn, 1) := by decide +kernel
theorem dJ5_charAt_5068e_42 : decode cJ5_charAt_5068e 42 = .ok (.aload_n 3, 1) := by decide +kernel
theorem dJ5_charAt_5068e_43 : decode cJ5_charAt_5068e 43 = .ok (.iload_n 1, 1) := by decide +kernel
theorem dJ5_charAt_5068e_44 : decode cJ5_charAt_5068e 44 = .ok (.invokestatic 148, 3) := by decide +kernel
theorem dJ5_charAt_5068e_47 : decode cJ5_charAt_5068e 47 = .ok (.ireturn, 1) := by decide +kernel
theorem dJ5_append_cf1ce_0 : decode cJ5_append_cf1ce 0 = .ok (.aload_n 1, 1) := by decide +kernel
theorem dJ5_append_cf1ce_1 : decode cJ5_append_cf1ce 1 = .ok (.ifnonnull 8, 3) := by decide +kernel
theorem dJ5_append_cf1ce_4 : decode cJ5_append_cf1ce 4 = .ok (.aload_n 0, 1) := by decide +kernel
theorem dJ5_append_cf1ce_5 : decode cJ5_append_cf1ce 5 = .ok (.invokevirtual 204, 3) := by decide +kernel
theorem dJ5_append_cf1ce_8 : decode cJ5_append_cf1ce 8 = .ok (.areturn, 1) := by decide +kernel
theorem dJ5_append_cf1ce_9 : decode cJ5_append_cf1ce 9 = .ok (.aload_n 1, 1) := by decide +kernel
theorem dJ5_append_cf1ce_10 : decode cJ5_append_cf1ce 10 = .ok (.invokevirtual 32, 3) := by decide +kernel
theorem dJ5_append_cf1ce_13 : decode cJ5_append_cf1ce 13 = .ok (.istore_n 2, 1) := by decide +kernel
theorem dJ5_append_cf1ce_14 : decode cJ5_append_cf1ce 14 = .ok (.aload_n 0, 1) := by decide +kernel
theorem dJ5_append_cf1ce_15 : decode cJ5_append_cf1ce 15 = .ok (.aload_n 0, 1) := by decide +kernel
theorem dJ5_append_cf1ce_16 : decode cJ5_append_cf1ce 16 = .ok (.getfield 79, 3) := by decide +kernel
theorem dJ5_append_cf1ce_19 : decode cJ5_append_cf1ce 19 = .ok (.iload_n 2, 1) := by decide +kernel
theorem dJ5_append_cf1ce_20 : decode cJ5_append_cf1ce 20 = .ok (.iadd, 1) := by decide +kernel
theorem dJ5_append_cf1ce_21 : decode cJ5_append_cf1ce 21 = .ok (.invokevirtual 100, 3) := by decide +kernel
theorem dJ5_append_cf1ce_24 : decode cJ5_append_cf1ce 24 = .ok (.aload_n 0, 1) := by decide +kernel
theorem dJ5_append_cf1ce_25 : decode cJ5_append_cf1ce 25 = .ok (.aload_n 0, 1) := by decide +kernel
theorem dJ5_append_cf1ce_26 : decode cJ5_append_cf1ce 26 = .ok (.getfield 79, 3) := by decide +kernel
theorem dJ5_append_cf1ce_29 : decode cJ5_append_cf1ce 29 = .ok (.aload_n 1, 1) := by decide +kernel
theorem dJ5_append_cf1ce_30 : decode cJ5_append_cf1ce 30 = .ok (.invokevirtual 208, 3) := by decide +kernel
theorem dJ5_append_cf1ce_33 : decode cJ5_append_cf1ce 33 = .ok (.aload_n 0, 1) := by decide +kernel
theorem dJ5_append_cf1ce_34 : decode cJ5_append_cf1ce 34 = .ok (.dup, 1) := by decide +kernel
theorem dJ5_append_cf1ce_35 : decode cJ5_append_cf1ce 35 = .ok (.getfield 79, 3) := by decide +kernel
theorem dJ5_append_cf1ce_38 : decode cJ5_append_cf1ce 38 = .ok (.iload_n 2, 1) := by decide +kernel
theorem dJ5_append_cf1ce_39 : decode cJ5_append_cf1ce 39 = .ok (.iadd, 1) := by decide +kernel
theorem dJ5_append_cf1ce_40 : decode cJ5_append_cf1ce 40 = .ok (.putfield 79, 3) := by decide +kernel
theorem dJ5_append_cf1ce_43 : decode cJ5_append_cf1ce 43 = .ok (.aload_n 0, 1) := by decide +kernel
theorem dJ5_append_cf1ce_44 : decode cJ5_append_cf1ce 44 = .ok (.areturn, 1) := by decide +kernel
theorem dJ5_appendNull_278bc_0 : decode cJ5_appendNull_278bc 0 = .ok (.aload_n 0, 1) := by decide +kernel
theorem dJ5_appendNull_278bc_1 : decode cJ5_appendNull_278bc 1 = .ok (.aload_n 0, 1) := by decide +kernel
theorem dJ5_appendNull_278bc_2 : decode cJ5_appendNull_278bc 2 = .ok (.getfield 79, 3) := by decide +kernel
theorem dJ5_appendNull_278bc_5 : decode cJ5_appendNull_278bc 5 = .ok (.iconst 4, 1) := by decide +kernel
theorem dJ5_appendNull_278bc_6 : decode cJ5_appendNull_278bc 6 = .ok (.iadd, 1) := by decide +kernel
theorem dJ5_appendNull_278bc_7 : decode cJ5_appendNull_278bc 7 = .ok (.invokevirtual 100, 3) := by decide +kernel
theorem dJ5_appendNull_278bc_10 : decode cJ5_appendNull_278bc 10 = .ok (.aload_n 0, 1) := by decide +kernel
theorem dJ5_appendNull_278bc_11 : decode cJ5_appendNull_278bc 11 = .ok (.getfield 79, 3) := by decide +kernel
theorem dJ5_appendNull_278bc_14 : decode cJ5_appendNull_278bc 14 = .ok (.istore_n 1, 1) := by decide +kernel
theorem dJ5_appendNull_278bc_15 : decode cJ5_appendNull_278bc 15 = .ok (.aload_n 0, 1) := by decide +kernel
theorem dJ5_appendNull_278bc_16 : decode cJ5_appendNull_278bc 16 = .ok (.getfield 15, 3) := by decide +kernel
theorem dJ5_appendNull_278bc_19 : decode cJ5_appendNull_278bc 19 = .ok (.astore_n 2, 1) := by decide +kernel
theorem dJ5_appendNull_278bc_20 : decode cJ5_appendNull_278bc 20 = .ok (.aload_n 0, 1) := by decide +kernel
theorem dJ5_appendNull_278bc_21 : decode cJ5_appendNull_278bc 21 = .ok (.invokevirtual 83, 3) := by decide +kernel
theorem dJ5_appendNull_278bc_24 : decode cJ5_appendNull_278bc 24 = .ok (.ifCond .eq 38, 3) := by decide +kernel
theorem dJ5_appendNull_278bc_27 : decode cJ5_appendNull_278bc 27 = .ok (.aload_n 2, 1) := by decide +kernel
theorem dJ5_appendNull_278bc_28 : decode cJ5_appendNull_278bc 28 = .ok (.iload_n 1, 1) := by decide +kernel
theorem dJ5_appendNull_278bc_29 : decode cJ5_appendNull_278bc 29 = .ok (.iinc 1 1, 3) := by decide +kernel
theorem dJ5_appendNull_278bc_32 : decode cJ5_appendNull_278bc 32 = .ok (.bipush 110, 2) := by decide +kernel
theorem dJ5_appendNull_278bc_34 : decode cJ5_appendNull_278bc 34 = .ok (.bastore, 1) := by decide +kernel
theorem dJ5_appendNull_278bc_35 : decode cJ5_appendNull_278bc 35 = .ok (.aload_n 2, 1) := by decide +kernel
theorem dJ5_appendNull_278bc_36 : decode cJ5_appendNull_278bc 36 = .ok (.iload_n 1, 1) := by decide +kernel
theorem dJ5_appendNull_278bc_37 : decode cJ5_appendNull_278bc 37 = .ok (.iinc 1 1, 3) := by decide +kernel
theorem dJ5_appendNull_278bc_40 : decode cJ5_appendNull_278bc 40 = .ok (.bipush 117, 2) := by decide +kernel
theorem dJ5_appendNull_278bc_42 : decode cJ5_appendNull_278bc 42 = .ok (.bastore, 1) := by decide +kernel
theorem dJ5_appendNull_278bc_43 : decode cJ5_appendNull_278bc 43 = .ok (.aload_n 2, 1) := by decide +kernel
theorem dJ5_appendNull_278bc_44 : decode cJ5_appendNull_278bc 44 = .ok (.iload_n 1, 1) := by decide +kernel
theorem dJ5_appendNull_278bc_45 : decode cJ5_appendNull_278bc 45 = .ok (.iinc 1 1, 3) := by decide +kernel
theorem dJ5_appendNull_278bc_48 : decode cJ5_appendNull_278bc 48 = .ok (.bipush 108, 2) := by decide +kernel
theorem dJ5_appendNull_278bc_50 : decode cJ5_appendNull_278bc 50 = .ok (.bastore, 1) := by decide +kernel
theorem dJ5_appendNull_278bc_51 : decode cJ5_appendNull_278bc 51 = .ok (.aload_n 2, 1) := by decide +kernel
theorem dJ5_appendNull_278bc_52 : decode cJ5_appendNull_278bc 52 = .ok (.iload_n 1, 1) := by decide +kernel
theorem dJ5_appendNull_278bc_53 : decode cJ5_appendNull_278bc 53 = .ok (.iinc 1 1, 3) := by decide +kernel
theorem dJ5_appendNull_278bc_56 : decode cJ5_appendNull_278bc 56 = .ok (.bipush 108, 2) := by decide +kernel
theorem dJ5_appendNull_278bc_58 : decode cJ5_appendNull_278bc 58 = .ok (.bastore, 1) := by decide +kernel
theorem dJ5_appendNull_278bc_59 : decode cJ5_appendNull_278bc 59 = .ok (.goto 17, 3) := by decide +kernel
theorem dJ5_appendNull_278bc_62 : decode cJ5_appendNull_278bc 62 = .ok (.aload_n 2, 1) := by decide +kernel
theorem dJ5_appendNull_278bc_63 : decode cJ5_appendNull_278bc 63 = .ok (.iload_n 1, 1) := by decide +kernel
theorem dJ5_appendNull_278bc_64 : decode cJ5_appendNull_278bc 64 = .ok (.bipush 110, 2) := by decide +kernel
theorem dJ5_appendNull_278bc_66 : decode cJ5_appendNull_278bc 66 = .ok (.bipush 117, 2) := by decide +kernel
theorem dJ5_appendNull_278bc_68 : decode cJ5_appendNull_278bc 68 = .ok (.bipush 108, 2) := by decide +kernel
theorem dJ5_appendNull_278bc_70 : decode cJ5_appendNull_278bc 70 = .ok (.bipush 108, 2) := by decide +kernel
theorem dJ5_appendNull_278bc_72 : decode cJ5_appendNull_278bc 72 = .ok (.invokestatic 226, 3) := by decide +kernel
theorem dJ5_appendNull_278bc_75 : decode cJ5_appendNull_278bc 75 = .ok (.istore_n 1, 1) := by decide +kernel
theorem dJ5_appendNull_278bc_76 : decode cJ5_appendNull_278bc 76 = .ok (.aload_n 0, 1) := by decide +kernel
theorem dJ5_appendNull_278bc_77 : decode cJ5_appendNull_278bc 77 = .ok (.iload_n 1, 1) := by decide +kernel
theorem dJ5_appendNull_278bc_78 : decode cJ5_appendNull_278bc 78 = .ok (.putfield 79, 3) := by decide +kernel
theorem dJ5_appendNull_278bc_81 : decode cJ5_appendNull_278bc 81 = .ok (.aload_n 0, 1) := by decide +kernel
theorem dJ5_appendNull_278bc_82 : decode cJ5_appendNull_278bc 82 = .ok (.areturn, 1) := by decide +kernel
theorem dJ5_append_3fe6f_0 : decode cJ5_append_3fe6f 0 = .ok (.aload_n 0, 1) := by decide +kernel
theorem dJ5_append_3fe6f_1 : decode cJ5_append_3fe6f 1 = .ok (.aload_n 0, 1) := by decide +kernel
theorem dJ5_append_3fe6f_2 : decode cJ5_append_3fe6f 2 = .ok (.getfield 79, 3) := by decide +kernel
theorem dJ5_append_3fe6f_5 : decode cJ5_append_3fe6f 5 = .ok (.iconst 1, 1) := by decide +kernel
theorem dJ5_append_3fe6f_6 : decode cJ5_append_3fe6f 6 = .ok (.iadd, 1) := by decide +kernel
theorem dJ5_append_3fe6f_7 : decode cJ5_append_3fe6f 7 = .ok (.invokevirtual 100, 3) := by decide +kernel
theorem dJ5_append_3fe6f_10 : decode cJ5_append_3fe6f 10 = .ok (.aload_n 0, 1) := by decide +kernel
theorem dJ5_append_3fe6f_11 : decode cJ5_append_3fe6f 11 = .ok (.invokevirtual 83, 3) := by decide +kernel
theorem dJ5_append_3fe6f_14 : decode cJ5_append_3fe6f 14 = .ok (.ifCond .eq 31, 3) := by decide +kernel
theorem dJ5_append_3fe6f_17 : decode cJ5_append_3fe6f 17 = .ok (.iload_n 1, 1) := by decide +kernel
theorem dJ5_append_3fe6f_18 : decode cJ5_append_3fe6f 18 = .ok (.invokestatic 191, 3) := by decide +kernel
theorem dJ5_append_3fe6f_21 : decode cJ5_append_3fe6f 21 = .ok (.ifCond .eq 24, 3) := by decide +kernel
theorem dJ5_append_3fe6f_24 : decode cJ5_append_3fe6f 24 = .ok (.aload_n 0, 1) := by decide +kernel
theorem dJ5_append_3fe6f_25 : decode cJ5_append_3fe6f 25 = .ok (.getfield 15, 3) := by decide +kernel
theorem dJ5_append_3fe6f_28 : decode cJ5_append_3fe6f 28 = .ok (.aload_n 0, 1) := by decide +kernel
theorem dJ5_append_3fe6f_29 : decode cJ5_append_3fe6f 29 = .ok (.dup, 1) := by decide +kernel
theorem dJ5_append_3fe6f_30 : decode cJ5_append_3fe6f 30 = .ok (.getfield 79, 3) := by decide +kernel
theorem dJ5_append_3fe6f_33 : decode cJ5_append_3fe6f 33 = .ok (.dup_x1, 1) := by decide +kernel
theorem dJ5_append_3fe6f_34 : decode cJ5_append_3fe6f 34 = .ok (.iconst 1, 1) := by decide +kernel
theorem dJ5_append_3fe6f_35 : decode cJ5_append_3fe6f 35 = .ok (.iadd, 1) := by decide +kernel
theorem dJ5_append_3fe6f_36 : decode cJ5_append_3fe6f 36 = .ok (.putfield 79, 3) := by decide +kernel
theorem dJ5_append_3fe6f_39 : decode cJ5_append_3fe6f 39 = .ok (.iload_n 1, 1) := by decide +kernel
theorem dJ5_append_3fe6f_40 : decode cJ5_append_3fe6f 40 = .ok (.i2b, 1) := by decide +kernel
theorem dJ5_append_3fe6f_41 : decode cJ5_append_3fe6f 41 = .ok (.bastore, 1) := by decide +kernel
theorem dJ5_append_3fe6f_42 : decode cJ5_append_3fe6f 42 = .ok (.goto 33, 3) := by decide +kernel
theorem dJ5_append_3fe6f_45 : decode cJ5_append_3fe6f 45 = .ok (.aload_n 0, 1) := by decide +kernel
theorem dJ5_append_3fe6f_46 : decode cJ5_append_3fe6f 46 = .ok (.invokevirtual 83, 3) := by decide +kernel
theorem dJ5_append_3fe6f_49 : decode cJ5_append_3fe6f 49 = .ok (.ifCond .eq 7, 3) := by decide +kernel
theorem dJ5_append_3fe6f_52 : decode cJ5_append_3fe6f 52 = .ok (.aload_n 0, 1) := by decide +kernel
theorem dJ5_append_3fe6f_53 : decode cJ5_append_3fe6f 53 = .ok (.invokevirtual 195, 3) := by decide +kernel
theorem dJ5_append_3fe6f_56 : decode cJ5_append_3fe6f 56 = .ok (.aload_n 0, 1) := by decide +kernel
theorem dJ5_append_3fe6f_57 : decode cJ5_append_3fe6f 57 = .ok (.getfield 15, 3) := by decide +kernel
theorem dJ5_append_3fe6f_60 : decode cJ5_append_3fe6f 60 = .ok (.aload_n 0, 1) := by decide +kernel
theorem dJ5_append_3fe6f_61 : decode cJ5_append_3fe6f 61 = .ok (.dup, 1) := by decide +kernel
theorem dJ5_append_3fe6f_62 : decode cJ5_append_3fe6f 62 = .ok (.getfield 79, 3) := by decide +kernel
theorem dJ5_append_3fe6f_65 : decode cJ5_append_3fe6f 65 = .ok (.dup_x1, 1) := by decide +kernel
theorem dJ5_append_3fe6f_66 : decode cJ5_append_3fe6f 66 = .ok (.iconst 1, 1) := by decide +kernel
theorem dJ5_append_3fe6f_67 : decode cJ5_append_3fe6f 67 = .ok (.iadd, 1) := by decide +kernel
theorem dJ5_append_3fe6f_68 : decode cJ5_append_3fe6f 68 = .ok (.putfield 79, 3) := by decide +kernel
theorem dJ5_append_3fe6f_71 : decode cJ5_append_3fe6f 71 = .ok (.iload_n 1, 1) := by decide +kernel
theorem dJ5_append_3fe6f_72 : decode cJ5_append_3fe6f 72 = .ok (.invokestatic 197, 3) := by decide +kernel
theorem dJ5_append_3fe6f_75 : decode cJ5_append_3fe6f 75 = .ok (.aload_n 0, 1) := by decide +kernel
theorem dJ5_append_3fe6f_76 : decode cJ5_append_3fe6f 76 = .ok (.areturn, 1) := by decide +kernel
theorem dJ5_append_c97b9_0 : decode cJ5_append_c97b9 0 = .ok (.aload_n 0, 1) := by decide +kernel
theorem dJ5_append_c97b9_1 : decode cJ5_append_c97b9 1 = .ok (.getfield 79, 3) := by decide +kernel
theorem dJ5_append_c97b9_4 : decode cJ5_append_c97b9 4 = .ok (.istore_n 2, 1) := by decide +kernel
theorem dJ5_append_c97b9_5 : decode cJ5_append_c97b9 5 = .ok (.iload_n 2, 1) := by decide +kernel
theorem dJ5_append_c97b9_6 : decode cJ5_append_c97b9 6 = .ok (.iload_n 1, 1) := by decide +kernel
theorem dJ5_append_c97b9_7 : decode cJ5_append_c97b9 7 = .ok (.invokestatic 245, 3) := by decide +kernel
theorem dJ5_append_c97b9_10 : decode cJ5_append_c97b9 10 = .ok (.iadd, 1) := by decide +kernel
theorem dJ5_append_c97b9_11 : decode cJ5_append_c97b9 11 = .ok (.istore_n 3, 1) := by decide +kernel
theorem dJ5_append_c97b9_12 : decode cJ5_append_c97b9 12 = .ok (.aload_n 0, 1) := by decide +kernel
theorem dJ5_append_c97b9_13 : decode cJ5_append_c97b9 13 = .ok (.iload_n 3, 1) := by decide +kernel
theorem dJ5_append_c97b9_14 : decode cJ5_append_c97b9 14 = .ok (.invokevirtual 100, 3) := by decide +kernel
theorem dJ5_append_c97b9_17 : decode cJ5_append_c97b9 17 = .ok (.aload_n 0, 1) := by decide +kernel
theorem dJ5_append_c97b9_18 : decode cJ5_append_c97b9 18 = .ok (.invokevirtual 83, 3) := by decide +kernel
theorem dJ5_append_c97b9_21 : decode cJ5_append_c97b9 21 = .ok (.ifCond .eq 16, 3) := by decide +kernel
theorem dJ5_append_c97b9_24 : decode cJ5_append_c97b9 24 = .ok (.iload_n 1, 1) := by decide +kernel
theorem dJ5_append_c97b9_25 : decode cJ5_append_c97b9 25 = .ok (.iload_n 3, 1) := by decide +kernel
theorem dJ5_append_c97b9_26 : decode cJ5_append_c97b9 26 = .ok (.aload_n 0, 1) := by decide +kernel
theorem dJ5_append_c97b9_27 : decode cJ5_append_c97b9 27 = .ok (.getfield 15, 3) := by decide +kernel
theorem dJ5_append_c97b9_30 : decode cJ5_append_c97b9 30 = .ok (.invokestatic 248, 3) := by decide +kernel
theorem dJ5_append_c97b9_33 : decode cJ5_append_c97b9 33 = .ok (.pop, 1) := by decide +kernel
theorem dJ5_append_c97b9_34 : decode cJ5_append_c97b9 34 = .ok (.goto 14, 3) := by decide +kernel
theorem dJ5_append_c97b9_37 : decode cJ5_append_c97b9 37 = .ok (.iload_n 1, 1) := by decide +kernel
theorem dJ5_append_c97b9_38 : decode cJ5_append_c97b9 38 = .ok (.iload_n 2, 1) := by decide +kernel
theorem dJ5_append_c97b9_39 : decode cJ5_append_c97b9 39 = .ok (.iload_n 3, 1) := by decide +kernel
theorem dJ5_append_c97b9_40 : decode cJ5_append_c97b9 40 = .ok (.aload_n 0, 1) := by decide +kernel
theorem dJ5_append_c97b9_41 : decode cJ5_append_c97b9 41 = .ok (.getfield 15, 3) := by decide +kernel
theorem dJ5_append_c97b9_44 : decode cJ5_append_c97b9 44 = .ok (.invokestatic 251, 3) := by decide +kernel
theorem dJ5_append_c97b9_47 : decode cJ5_append_c97b9 47 = .ok (.pop, 1) := by decide +kernel
theorem dJ5_append_c97b9_48 : decode cJ5_append_c97b9 48 = .ok (.aload_n 0, 1) := by decide +kernel
theorem dJ5_append_c97b9_49 : decode cJ5_append_c97b9 49 = .ok (.iload_n 3, 1) := by decide +kernel
theorem dJ5_append_c97b9_50 : decode cJ5_append_c97b9 50 = .ok (.putfield 79, 3) := by decide +kernel
theorem dJ5_append_c97b9_53 : decode cJ5_append_c97b9 53 = .ok (.aload_n 0, 1) := by decide +kernel
theorem dJ5_append_c97b9_54 : decode cJ5_append_c97b9 54 = .ok (.areturn, 1) := by decide +kernel
theorem dJ5_append_66267_0 : decode cJ5_append_66267 0 = .ok (.aload_n 0, 1) := by decide +kernel
theorem dJ5_append_66267_1 : decode cJ5_append_66267 1 = .ok (.getfield 79, 3) := by decide +kernel
theorem dJ5_append_66267_4 : decode cJ5_append_66267 4 = .ok (.istore_n 3, 1) := by decide +kernel
theorem dJ5_append_66267_5 : decode cJ5_append_66267 5 = .ok (.iload_n 3, 1) := by decide +kernel
theorem dJ5_append_66267_6 : decode cJ5_append_66267 6 = .ok (.lload_n 1, 1) := by decide +kernel
theorem dJ5_append_66267_7 : decode cJ5_append_66267 7 = .ok (.invokestatic 254, 3) := by decide +kernel
theorem dJ5_append_66267_10 : decode cJ5_append_66267 10 = .ok (.iadd, 1) := by decide +kernel
theorem dJ5_append_66267_11 : decode cJ5_append_66267 11 = .ok (.istore 4, 2) := by decide +kernel
theorem dJ5_append_66267_13 : decode cJ5_append_66267 13 = .ok (.aload_n 0, 1) := by decide +kernel
theorem dJ5_append_66267_14 : decode cJ5_append_66267 14 = .ok (.iload 4, 2) := by decide +kernel
theorem dJ5_append_66267_16 : decode cJ5_append_66267 16 = .ok (.invokevirtual 100, 3) := by decide +kernel
theorem dJ5_append_66267_19 : decode cJ5_append_66267 19 = .ok (.aload_n 0, 1) := by decide +kernel
theorem dJ5_append_66267_20 : decode cJ5_append_66267 20 = .ok (.invokevirtual 83, 3) := by decide +kernel
theorem dJ5_append_66267_23 : decode cJ5_append_66267 23 = .ok (.ifCond .eq 17, 3) := by decide +kernel
theorem dJ5_append_66267_26 : decode cJ5_append_66267 26 = .ok (.lload_n 1, 1) := by decide +kernel
theorem dJ5_append_66267_27 : decode cJ5_append_66267 27 = .ok (.iload 4, 2) := by decide +kernel
theorem dJ5_append_66267_29 : decode cJ5_append_66267 29 = .ok (.aload_n 0, 1) := by decide +kernel
theorem dJ5_append_66267_30 : decode cJ5_append_66267 30 = .ok (.getfield 15, 3) := by decide +kernel
theorem dJ5_append_66267_33 : decode cJ5_append_66267 33 = .ok (.invokestatic 259, 3) := by decide +kernel
theorem dJ5_append_66267_36 : decode cJ5_append_66267 36 = .ok (.pop, 1) := by decide +kernel
theorem dJ5_append_66267_37 : decode cJ5_append_66267 37 = .ok (.goto 15, 3) := by decide +kernel
theorem dJ5_append_66267_40 : decode cJ5_append_66267 40 = .ok (.lload_n 1, 1) := by decide +kernel
theorem dJ5_append_66267_41 : decode cJ5_append_66267 41 = .ok (.iload_n 3, 1) := by decide +kernel
theorem dJ5_append_66267_42 : decode cJ5_append_66267 42 = .ok (.iload 4, 2) := by decide +kernel
theorem dJ5_append_66267_44 : decode cJ5_append_66267 44 = .ok (.aload_n 0, 1) := by decide +kernel
theorem dJ5_append_66267_45 : decode cJ5_append_66267 45 = .ok (.getfield 15, 3) := by decide +kernel
theorem dJ5_append_66267_48 : decode cJ5_append_66267 48 = .ok (.invokestatic 262, 3) := by decide +kernel
theorem dJ5_append_66267_51 : decode cJ5_append_66267 51 = .ok (.pop, 1) := by decide +kernel
theorem dJ5_append_66267_52 : decode cJ5_append_66267 52 = .ok (.aload_n 0, 1) := by decide +kernel
theorem dJ5_append_66267_53 : decode cJ5_append_66267 53 = .ok (.iload 4, 2) := by decide +kernel
theorem dJ5_append_66267_55 : decode cJ5_append_66267 55 = .ok (.putfield 79, 3) := by decide +kernel
theorem dJ5_append_66267_58 : decode cJ5_append_66267 58 = .ok (.aload_n 0, 1) := by decide +kernel
theorem dJ5_append_66267_59 : decode cJ5_append_66267 59 = .ok (.areturn, 1) := by decide +kernel
theorem dJ5_reverse_278bc_0 : decode cJ5_reverse_278bc 0 = .ok (.aload_n 0, 1) := by decide +kernel
theorem dJ5_reverse_278bc_1 : decode cJ5_reverse_278bc 1 = .ok (.getfield 15, 3) := by decide +kernel
theorem dJ5_reverse_278bc_4 : decode cJ5_reverse_278bc 4 = .ok (.astore_n 1, 1) := by decide +kernel
theorem dJ5_reverse_278bc_5 : decode cJ5_reverse_278bc 5 = .ok (.aload_n 0, 1) := by decide +kernel
theorem dJ5_reverse_278bc_6 : decode cJ5_reverse_278bc 6 = .ok (.getfield 79, 3) := by decide +kernel
theorem dJ5_reverse_278bc_9 : decode cJ5_reverse_278bc 9 = .ok (.istore_n 2, 1) := by decide +kernel
theorem dJ5_reverse_278bc_10 : decode cJ5_reverse_278bc 10 = .ok (.iload_n 2, 1) := by decide +kernel
theorem dJ5_reverse_278bc_11 : decode cJ5_reverse_278bc 11 = .ok (.iconst 1, 1) := by decide +kernel
theorem dJ5_reverse_278bc_12 : decode cJ5_reverse_278bc 12 = .ok (.isub, 1) := by decide +kernel
theorem dJ5_reverse_278bc_13 : decode cJ5_reverse_278bc 13 = .ok (.istore_n 3, 1) := by decide +kernel
theorem dJ5_reverse_278bc_14 : decode cJ5_reverse_278bc 14 = .ok (.aload_n 0, 1) := by decide +kernel
theorem dJ5_reverse_278bc_15 : decode cJ5_reverse_278bc 15 = .ok (.invokevirtual 83, 3) := by decide +kernel
theorem dJ5_reverse_278bc_18 : decode cJ5_reverse_278bc 18 = .ok (.ifCond .eq 50, 3) := by decide +kernel
theorem dJ5_reverse_278bc_21 : decode cJ5_reverse_278bc 21 = .ok (.iload_n 3, 1) := by decide +kernel
theorem dJ5_reverse_278bc_22 : decode cJ5_reverse_278bc 22 = .ok (.iconst 1, 1) := by decide +kernel
theorem dJ5_reverse_278bc_23 : decode cJ5_reverse_278bc 23 = .ok (.isub, 1) := by decide +kernel
theorem dJ5_reverse_278bc_24 : decode cJ5_reverse_278bc 24 = .ok (.iconst 1, 1) := by decide +kernel
theorem dJ5_reverse_278bc_25 : decode cJ5_reverse_278bc 25 = .ok (.ishr, 1) := by decide +kernel
theorem dJ5_reverse_278bc_26 : decode cJ5_reverse_278bc 26 = .ok (.istore 4, 2) := by decide +kernel
theorem dJ5_reverse_278bc_28 : decode cJ5_reverse_278bc 28 = .ok (.iload 4, 2) := by decide +kernel
theorem dJ5_reverse_278bc_30 : decode cJ5_reverse_278bc 30 = .ok (.ifCond .lt 35, 3) := by decide +kernel
theorem dJ5_reverse_278bc_33 : decode cJ5_reverse_278bc 33 = .ok (.iload_n 3, 1) := by decide +kernel
theorem dJ5_reverse_278bc_34 : decode cJ5_reverse_278bc 34 = .ok (.iload 4, 2) := by decide +kernel
theorem dJ5_reverse_278bc_36 : decode cJ5_reverse_278bc 36 = .ok (.isub, 1) := by decide +kernel
theorem dJ5_reverse_278bc_37 : decode cJ5_reverse_278bc 37 = .ok (.istore 5, 2) := by decide +kernel
theorem dJ5_reverse_278bc_39 : decode cJ5_reverse_278bc 39 = .ok (.aload_n 1, 1) := by decide +kernel
theorem dJ5_reverse_278bc_40 : decode cJ5_reverse_278bc 40 = .ok (.iload 4, 2) := by decide +kernel
theorem dJ5_reverse_278bc_42 : decode cJ5_reverse_278bc 42 = .ok (.baload, 1) := by decide +kernel
theorem dJ5_reverse_278bc_43 : decode cJ5_reverse_278bc 43 = .ok (.istore 6, 2) := by decide +kernel
theorem dJ5_reverse_278bc_45 : decode cJ5_reverse_278bc 45 = .ok (.aload_n 1, 1) := by decide +kernel
theorem dJ5_reverse_278bc_46 : decode cJ5_reverse_278bc 46 = .ok (.iload 4, 2) := by decide +kernel
theorem dJ5_reverse_278bc_48 : decode cJ5_reverse_278bc 48 = .ok (.aload_n 1, 1) := by decide +kernel
theorem dJ5_reverse_278bc_49 : decode cJ5_reverse_278bc 49 = .ok (.iload 5, 2) := by decide +kernel
theorem dJ5_reverse_278bc_51 : decode cJ5_reverse_278bc 51 = .ok (.baload, 1) := by decide +kernel
theorem dJ5_reverse_278bc_52 : decode cJ5_reverse_278bc 52 = .ok (.bastore, 1) := by decide +kernel
theorem dJ5_reverse_278bc_53 : decode cJ5_reverse_278bc 53 = .ok (.aload_n 1, 1) := by decide +kernel
theorem dJ5_reverse_278bc_54 : decode cJ5_reverse_278bc 54 = .ok (.iload 5, 2) := by decide +kernel
theorem dJ5_reverse_278bc_56 : decode cJ5_reverse_278bc 56 = .ok (.iload 6, 2) := by decide +kernel
theorem dJ5_reverse_278bc_58 : decode cJ5_reverse_278bc 58 = .ok (.bastore, 1) := by decide +kernel
theorem dJ5_reverse_278bc_59 : decode cJ5_reverse_278bc 59 = .ok (.iinc 4 (-1), 3) := by decide +kernel
theorem dJ5_reverse_278bc_62 : decode cJ5_reverse_278bc 62 = .ok (.goto (-34), 3) := by decide +kernel
theorem dJ5_reverse_278bc_65 : decode cJ5_reverse_278bc 65 = .ok (.goto 8, 3) := by decide +kernel
theorem dJ5_reverse_278bc_68 : decode cJ5_reverse_278bc 68 = .ok (.aload_n 1, 1) := by decide +kernel
theorem dJ5_reverse_278bc_69 : decode cJ5_reverse_278bc 69 = .ok (.iload_n 2, 1) := by decide +kernel
theorem dJ5_reverse_278bc_70 : decode cJ5_reverse_278bc 70 = .ok (.invokestatic 358, 3) := by decide +kernel
theorem dJ5_reverse_278bc_73 : decode cJ5_reverse_278bc 73 = .ok (.aload_n 0, 1) := by decide +kernel
theorem dJ5_reverse_278bc_74 : decode cJ5_reverse_278bc 74 = .ok (.areturn, 1) := by decide +kernel
theorem dJ5_getValue_6d5f1_0 : decode cJ5_getValue_6d5f1 0 = .ok (.aload_n 0, 1) := by decide +kernel
theorem dJ5_getValue_6d5f1_1 : decode cJ5_getValue_6d5f1 1 = .ok (.getfield 15, 3) := by decide +kernel
theorem dJ5_getValue_6d5f1_4 : decode cJ5_getValue_6d5f1 4 = .ok (.areturn, 1) := by decide +kernel
theorem dJ5_isLatin1_aae02_0 : decode cJ5_isLatin1_aae02 0 = .ok (.getstatic 18, 3) := by decide +kernel
theorem dJ5_isLatin1_aae02_3 : decode cJ5_isLatin1_aae02 3 = .ok (.ifCond .eq 14, 3) := by decide +kernel
theorem dJ5_isLatin1_aae02_6 : decode cJ5_isLatin1_aae02 6 = .ok (.aload_n 0, 1) := by decide +kernel
theorem dJ5_isLatin1_aae02_7 : decode cJ5_isLatin1_aae02 7 = .ok (.getfield 22, 3) := by decide +kernel
theorem dJ5_isLatin1_aae02_10 : decode cJ5_isLatin1_aae02 10 = .ok (.ifCond .ne 7, 3) := by decide +kernel
theorem dJ5_isLatin1_aae02_13 : decode cJ5_isLatin1_aae02 13 = .ok (.iconst 1, 1) := by decide +kernel
theorem dJ5_isLatin1_aae02_14 : decode cJ5_isLatin1_aae02 14 = .ok (.goto 4, 3) := by decide +kernel
theorem dJ5_isLatin1_aae02_17 : decode cJ5_isLatin1_aae02 17 = .ok (.iconst 0, 1) := by decide +kernel
theorem dJ5_isLatin1_aae02_18 : decode cJ5_isLatin1_aae02 18 = .ok (.ireturn, 1) := by decide +kernel
theorem dJ5_inflateIfNeededFor_a7421_0 : decode cJ5_inflateIfNeededFor_a7421 0 = .ok (.getstatic 18, 3) := by decide +kernel
theorem dJ5_inflateIfNeededFor_a7421_3 : decode cJ5_inflateIfNeededFor_a7421 3 = .ok (.ifCond .eq 18, 3) := by decide +kernel
theorem dJ5_inflateIfNeededFor_a7421_6 : decode cJ5_inflateIfNeededFor_a7421 6 = .ok (.aload_n 0, 1) := by decide +kernel
theorem dJ5_inflateIfNeededFor_a7421_7 : decode cJ5_inflateIfNeededFor_a7421 7 = .ok (.getfield 22, 3) := by decide +kernel
theorem dJ5_inflateIfNeededFor_a7421_10 : decode cJ5_inflateIfNeededFor_a7421 10 = .ok (.aload_n 1, 1) := by decide +kernel
theorem dJ5_inflateIfNeededFor_a7421_11 : decode cJ5_inflateIfNeededFor_a7421 11 = .ok (.invokevirtual 40, 3) := by decide +kernel
theorem dJ5_inflateIfNeededFor_a7421_14 : decode cJ5_inflateIfNeededFor_a7421 14 = .ok (.if_icmp .eq 7, 3) := by decide +kernel
theorem dJ5_inflateIfNeededFor_a7421_17 : decode cJ5_inflateIfNeededFor_a7421 17 = .ok (.aload_n 0, 1) := by decide +kernel
theorem dJ5_inflateIfNeededFor_a7421_18 : decode cJ5_inflateIfNeededFor_a7421 18 = .ok (.invokevirtual 195, 3) := by decide +kernel
theorem dJ5_inflateIfNeededFor_a7421_21 : decode cJ5_inflateIfNeededFor_a7421 21 = .ok (.return_, 1) := by decide +kernel
theorem dJ5_putStringAt_47b60_0 : decode cJ5_putStringAt_47b60 0 = .ok (.aload_n 0, 1) := by decide +kernel
theorem dJ5_putStringAt_47b60_1 : decode cJ5_putStringAt_47b60 1 = .ok (.aload_n 2, 1) := by decide +kernel
theorem dJ5_putStringAt_47b60_2 : decode cJ5_putStringAt_47b60 2 = .ok (.invokevirtual 397, 3) := by decide +kernel
theorem dJ5_putStringAt_47b60_5 : decode cJ5_putStringAt_47b60 5 = .ok (.aload_n 2, 1) := by decide +kernel
theorem dJ5_putStringAt_47b60_6 : decode cJ5_putStringAt_47b60 6 = .ok (.aload_n 0, 1) := by decide +kernel
theorem dJ5_putStringAt_47b60_7 : decode cJ5_putStringAt_47b60 7 = .ok (.getfield 15, 3) := by decide +kernel
theorem dJ5_putStringAt_47b60_10 : decode cJ5_putStringAt_47b60 10 = .ok (.iload_n 1, 1) := by decide +kernel
theorem dJ5_putStringAt_47b60_11 : decode cJ5_putStringAt_47b60 11 = .ok (.aload_n 0, 1) := by decide +kernel
theorem dJ5_putStringAt_47b60_12 : decode cJ5_putStringAt_47b60 12 = .ok (.getfield 22, 3) := by decide +kernel
theorem dJ5_putStringAt_47b60_15 : decode cJ5_putStringAt_47b60 15 = .ok (.invokevirtual 399, 3) := by decide +kernel
theorem dJ5_putStringAt_47b60_18 : decode cJ5_putStringAt_47b60 18 = .ok (.return_, 1) := by decide +kernel
theorem dJx00060_init_d00df_0 : decode cJx00060_init_d00df 0 = .ok (.aload_n 0, 1) := by decide +kernel
theorem dJx00060_init_d00df_1 : decode cJx00060_init_d00df 1 = .ok (.new 10, 3) := by decide +kernel
theorem dJx00060_init_d00df_4 : decode cJx00060_init_d00df 4 = .ok (.dup, 1) := by decide +kernel
theorem dJx00060_init_d00df_5 : decode cJx00060_init_d00df 5 = .ok (.invokespecial 12, 3) := by decide +kernel
theorem dJx00060_init_d00df_8 : decode cJx00060_init_d00df 8 = .ok (.ldc 13, 2) := by decide +kernel
theorem dJx00060_init_d00df_10 : decode cJx00060_init_d00df 10 = .ok (.invokevirtual 15, 3) := by decide +kernel
theorem dJx00060_init_d00df_13 : decode cJx00060_init_d00df 13 = .ok (.iload_n 1, 1) := by decide +kernel
theorem dJx00060_init_d00df_14 : decode cJx00060_init_d00df 14 = .ok (.invokevirtual 19, 3) := by decide +kernel
theorem dJx00060_init_d00df_17 : decode cJx00060_init_d00df 17 = .ok (.invokevirtual 22, 3) := by decide +kernel
theorem dJx00060_init_d00df_20 : decode cJx00060_init_d00df 20 = .ok (.invokespecial 7, 3) := by decide +kernel
theorem dJx00060_init_d00df_23 : decode cJx00060_init_d00df 23 = .ok (.return_, 1) := by decide +kernel
theorem dJ11_isHighSurrogate_fc78d_0 : decode cJ11_isHighSurrogate_fc78d 0 = .ok (.iload_n 0, 1) := by decide +kernel
theorem dJ11_isHighSurrogate_fc78d_1 : decode cJ11_isHighSurrogate_fc78d 1 = .ok (.ldc 75, 2) := by decide +kernel
theorem dJ11_isHighSurrogate_fc78d_3 : decode cJ11_isHighSurrogate_fc78d 3 = .ok (.if_icmp .lt 13, 3) := by decide +kernel
theorem dJ11_isHighSurrogate_fc78d_6 : decode cJ11_isHighSurrogate_fc78d 6 = .ok (.iload_n 0, 1) := by decide +kernel
theorem dJ11_isHighSurrogate_fc78d_7 : decode cJ11_isHighSurrogate_fc78d 7 = .ok (.ldc 76, 2) := by decide +kernel
theorem dJ11_isHighSurrogate_fc78d_9 : decode cJ11_isHighSurrogate_fc78d 9 = .ok (.if_icmp .ge 7, 3) := by decide +kernel
theorem dJ11_isHighSurrogate_fc78d_12 : decode cJ11_isHighSurrogate_fc78d 12 = .ok (.iconst 1, 1) := by decide +kernel
theorem dJ11_isHighSurrogate_fc78d_13 : decode cJ11_isHighSurrogate_fc78d 13 = .ok (.goto 4, 3) := by decide +kernel
theorem dJ11_isHighSurrogate_fc78d_16 : decode cJ11_isHighSurrogate_fc78d 16 = .ok (.iconst 0, 1) := by decide +kernel
theorem dJ11_isHighSurrogate_fc78d_17 : decode cJ11_isHighSurrogate_fc78d 17 = .ok (.ireturn, 1) := by decide +kernel
theorem dJ11_isLowSurrogate_fc78d_0 : decode cJ11_isLowSurrogate_fc78d 0 = .ok (.iload_n 0, 1) := by decide +kernel
theorem dJ11_isLowSurrogate_fc78d_1 : decode cJ11_isLowSurrogate_fc78d 1 = .ok (.ldc 76, 2) := by decide +kernel
theorem dJ11_isLowSurrogate_fc78d_3 : decode cJ11_isLowSurrogate_fc78d 3 = .ok (.if_icmp .lt 13, 3) := by decide +kernel
theorem dJ11_isLowSurrogate_fc78d_6 : decode cJ11_isLowSurrogate_fc78d 6 = .ok (.iload_n 0, 1) := by decide +kernel
theorem dJ11_isLowSurrogate_fc78d_7 : decode cJ11_isLowSurrogate_fc78d 7 = .ok (.ldc 77, 2) := by decide +kernel
theorem dJ11_isLowSurrogate_fc78d_9 : decode cJ11_isLowSurrogate_fc78d 9 = .ok (.if_icmp .ge 7, 3) := by decide +kernel
theorem dJ11_isLowSurrogate_fc78d_12 : decode cJ11_isLowSurrogate_fc78d 12 = .ok (.iconst 1, 1) := by decide +kernel
theorem dJ11_isLowSurrogate_fc78d_13 : decode cJ11_isLowSurrogate_fc78d 13 = .ok (.goto 4, 3) := by decide +kernel
theorem dJ11_isLowSurrogate_fc78d_16 : decode cJ11_isLowSurrogate_fc78d 16 = .ok (.iconst 0, 1) := by decide +kernel
theorem dJ11_isLowSurrogate_fc78d_17 : decode cJ11_isLowSurrogate_fc78d 17 = .ok (.ireturn, 1) := by decide +kernel
theorem dJ11_isSurrogate_fc78d_0 : decode cJ11_isSurrogate_fc78d 0 = .ok (.iload_n 0, 1) := by decide +kernel
theorem dJ11_isSurrogate_fc78d_1 : decode cJ11_isSurrogate_fc78d 1 = .ok (.ldc 75, 2) := by decide +kernel
theorem dJ11_isSurrogate_fc78d_3 : decode cJ11_isSurrogate_fc78d 3 = .ok (.if_icmp .lt 13, 3) := by decide +kernel
theorem dJ11_isSurrogate_fc78d_6 : decode cJ11_isSurrogate_fc78d 6 = .ok (.iload_n 0, 1) := by decide +kernel
theorem dJ11_isSurrogate_fc78d_7 : decode cJ11_isSurrogate_fc78d 7 = .ok (.ldc 77, 2) := by decide +kernel
theorem dJ11_isSurrogate_fc78d_9 : decode cJ11_isSurrogate_fc78d 9 = .ok (.if_icmp .ge 7, 3) := by decide +kernel
theorem dJ11_isSurrogate_fc78d_12 : decode cJ11_isSurrogate_fc78d 12 = .ok (.iconst 1, 1) := by decide +kernel
theorem dJ11_isSurrogate_fc78d_13 : decode cJ11_isSurrogate_fc78d 13 = .ok (.goto 4, 3) := by decide +kernel
theorem dJ11_isSurrogate_fc78d_16 : decode cJ11_isSurrogate_fc78d 16 = .ok (.iconst 0, 1) := by decide +kernel
theorem dJ11_isSurrogate_fc78d_17 : decode cJ11_isSurrogate_fc78d 17 = .ok (.ireturn, 1) := by decide +kernel
theorem dJ6_getChars_ba4f3_0 : decode cJ6_getChars_ba4f3 0 = .ok (.iload_n 1, 1) := by decide +kernel
theorem dJ6_getChars_ba4f3_1 : decode cJ6_getChars_ba4f3 1 = .ok (.istore 5, 2) := by decide +kernel
theorem dJ6_getChars_ba4f3_3 : decode cJ6_getChars_ba4f3 3 = .ok (.iload_n 0, 1) := by decide +kernel
theorem dJ6_getChars_ba4f3_4 : decode cJ6_getChars_ba4f3 4 = .ok (.ifCond .ge 7, 3) := by decide +kernel
theorem dJ6_getChars_ba4f3_7 : decode cJ6_getChars_ba4f3 7 = .ok (.iconst 1, 1) := by decide +kernel
theorem dJ6_getChars_ba4f3_8 : decode cJ6_getChars_ba4f3 8 = .ok (.goto 4, 3) := by decide +kernel
theorem dJ6_getChars_ba4f3_11 : decode cJ6_getChars_ba4f3 11 = .ok (.iconst 0, 1) := by decide +kernel
theorem dJ6_getChars_ba4f3_12 : decode cJ6_getChars_ba4f3 12 = .ok (.istore 6, 2) := by decide +kernel
theorem dJ6_getChars_ba4f3_14 : decode cJ6_getChars_ba4f3 14 = .ok (.iload 6, 2) := by decide +kernel
theorem dJ6_getChars_ba4f3_16 : decode cJ6_getChars_ba4f3 16 = .ok (.ifCond .ne 6, 3) := by decide +kernel
theorem dJ6_getChars_ba4f3_19 : decode cJ6_getChars_ba4f3 19 = .ok (.iload_n 0, 1) := by decide +kernel
theorem dJ6_getChars_ba4f3_20 : decode cJ6_getChars_ba4f3 20 = .ok (.ineg, 1) := by decide +kernel
theorem dJ6_getChars_ba4f3_21 : decode cJ6_getChars_ba4f3 21 = .ok (.istore_n 0, 1) := by decide +kernel
theorem dJ6_getChars_ba4f3_22 : decode cJ6_getChars_ba4f3 22 = .ok (.iload_n 0, 1) := by decide +kernel
theorem dJ6_getChars_ba4f3_23 : decode cJ6_getChars_ba4f3 23 = .ok (.bipush (-100), 2) := by decide +kernel
theorem dJ6_getChars_ba4f3_25 : decode cJ6_getChars_ba4f3 25 = .ok (.if_icmp .gt 47, 3) := by decide +kernel
theorem dJ6_getChars_ba4f3_28 : decode cJ6_getChars_ba4f3 28 = .ok (.iload_n 0, 1) := by decide +kernel
theorem dJ6_getChars_ba4f3_29 : decode cJ6_getChars_ba4f3 29 = .ok (.bipush 100, 2) := by decide +kernel
theorem dJ6_getChars_ba4f3_31 : decode cJ6_getChars_ba4f3 31 = .ok (.idiv, 1) := by decide +kernel
theorem dJ6_getChars_ba4f3_32 : decode cJ6_getChars_ba4f3 32 = .ok (.istore_n 3, 1) := by decide +kernel
theorem dJ6_getChars_ba4f3_33 : decode cJ6_getChars_ba4f3 33 = .ok (.iload_n 3, 1) := by decide +kernel
theorem dJ6_getChars_ba4f3_34 : decode cJ6_getChars_ba4f3 34 = .ok (.bipush 100, 2) := by decide +kernel
theorem dJ6_getChars_ba4f3_36 : decode cJ6_getChars_ba4f3 36 = .ok (.imul, 1) := by decide +kernel
theorem dJ6_getChars_ba4f3_37 : decode cJ6_getChars_ba4f3 37 = .ok (.iload_n 0, 1) := by decide +kernel
theorem dJ6_getChars_ba4f3_38 : decode cJ6_getChars_ba4f3 38 = .ok (.isub, 1) := by decide +kernel
theorem dJ6_getChars_ba4f3_39 : decode cJ6_getChars_ba4f3 39 = .ok (.istore 4, 2) := by decide +kernel
theorem dJ6_getChars_ba4f3_41 : decode cJ6_getChars_ba4f3 41 = .ok (.iload_n 3, 1) := by decide +kernel
theorem dJ6_getChars_ba4f3_42 : decode cJ6_getChars_ba4f3 42 = .ok (.istore_n 0, 1) := by decide +kernel
theorem dJ6_getChars_ba4f3_43 : decode cJ6_getChars_ba4f3 43 = .ok (.aload_n 2, 1) := by decide +kernel
theorem dJ6_getChars_ba4f3_44 : decode cJ6_getChars_ba4f3 44 = .ok (.iinc 5 (-1), 3) := by decide +kernel
theorem dJ6_getChars_ba4f3_47 : decode cJ6_getChars_ba4f3 47 = .ok (.iload 5, 2) := by decide +kernel
theorem dJ6_getChars_ba4f3_49 : decode cJ6_getChars_ba4f3 49 = .ok (.getstatic 83, 3) := by decide +kernel
theorem dJ6_getChars_ba4f3_52 : decode cJ6_getChars_ba4f3 52 = .ok (.iload 4, 2) := by decide +kernel
theorem dJ6_getChars_ba4f3_54 : decode cJ6_getChars_ba4f3 54 = .ok (.baload, 1) := by decide +kernel
theorem dJ6_getChars_ba4f3_55 : decode cJ6_getChars_ba4f3 55 = .ok (.bastore, 1) := by decide +kernel
theorem dJ6_getChars_ba4f3_56 : decode cJ6_getChars_ba4f3 56 = .ok (.aload_n 2, 1) := by decide +kernel
theorem dJ6_getChars_ba4f3_57 : decode cJ6_getChars_ba4f3 57 = .ok (.iinc 5 (-1), 3) := by decide +kernel
theorem dJ6_getChars_ba4f3_60 : decode cJ6_getChars_ba4f3 60 = .ok (.iload 5, 2) := by decide +kernel
theorem dJ6_getChars_ba4f3_62 : decode cJ6_getChars_ba4f3 62 = .ok (.getstatic 87, 3) := by decide +kernel
theorem dJ6_getChars_ba4f3_65 : decode cJ6_getChars_ba4f3 65 = .ok (.iload 4, 2) := by decide +kernel
theorem dJ6_getChars_ba4f3_67 : decode cJ6_getChars_ba4f3 67 = .ok (.baload, 1) := by decide +kernel
theorem dJ6_getChars_ba4f3_68 : decode cJ6_getChars_ba4f3 68 = .ok (.bastore, 1) := by decide +kernel
theorem dJ6_getChars_ba4f3_69 : decode cJ6_getChars_ba4f3 69 = .ok (.goto (-47), 3) := by decide +kernel
theorem dJ6_getChars_ba4f3_72 : decode cJ6_getChars_ba4f3 72 = .ok (.aload_n 2, 1) := by decide +kernel
theorem dJ6_getChars_ba4f3_73 : decode cJ6_getChars_ba4f3 73 = .ok (.iinc 5 (-1), 3) := by decide +kernel
theorem dJ6_getChars_ba4f3_76 : decode cJ6_getChars_ba4f3 76 = .ok (.iload 5, 2) := by decide +kernel
theorem dJ6_getChars_ba4f3_78 : decode cJ6_getChars_ba4f3 78 = .ok (.getstatic 83, 3) := by decide +kernel
theorem dJ6_getChars_ba4f3_81 : decode cJ6_getChars_ba4f3 81 = .ok (.iload_n 0, 1) := by decide +kernel
theorem dJ6_getChars_ba4f3_82 : decode cJ6_getChars_ba4f3 82 = .ok (.ineg, 1) := by decide +kernel
theorem dJ6_getChars_ba4f3_83 : decode cJ6_getChars_ba4f3 83 = .ok (.baload, 1) := by decide +kernel
theorem dJ6_getChars_ba4f3_84 : decode cJ6_getChars_ba4f3 84 = .ok (.bastore, 1) := by decide +kernel
theorem dJ6_getChars_ba4f3_85 : decode cJ6_getChars_ba4f3 85 = .ok (.iload_n 0, 1) := by decide +kernel
theorem dJ6_getChars_ba4f3_86 : decode cJ6_getChars_ba4f3 86 = .ok (.bipush (-9), 2) := by decide +kernel
theorem dJ6_getChars_ba4f3_88 : decode cJ6_getChars_ba4f3 88 = .ok (.if_icmp .ge 16, 3) := by decide +kernel
theorem dJ6_getChars_ba4f3_91 : decode cJ6_getChars_ba4f3 91 = .ok (.aload_n 2, 1) := by decide +kernel
theorem dJ6_getChars_ba4f3_92 : decode cJ6_getChars_ba4f3 92 = .ok (.iinc 5 (-1), 3) := by decide +kernel
theorem dJ6_getChars_ba4f3_95 : decode cJ6_getChars_ba4f3 95 = .ok (.iload 5, 2) := by decide +kernel
theorem dJ6_getChars_ba4f3_97 : decode cJ6_getChars_ba4f3 97 = .ok (.getstatic 87, 3) := by decide +kernel
theorem dJ6_getChars_ba4f3_100 : decode cJ6_getChars_ba4f3 100 = .ok (.iload_n 0, 1) := by decide +kernel
theorem dJ6_getChars_ba4f3_101 : decode cJ6_getChars_ba4f3 101 = .ok (.ineg, 1) := by decide +kernel
theorem dJ6_getChars_ba4f3_102 : decode cJ6_getChars_ba4f3 102 = .ok (.baload, 1) := by decide +kernel
theorem dJ6_getChars_ba4f3_103 : decode cJ6_getChars_ba4f3 103 = .ok (.bastore, 1) := by decide +kernel
theorem dJ6_getChars_ba4f3_104 : decode cJ6_getChars_ba4f3 104 = .ok (.iload 6, 2) := by decide +kernel
theorem dJ6_getChars_ba4f3_106 : decode cJ6_getChars_ba4f3 106 = .ok (.ifCond .eq 12, 3) := by decide +kernel
theorem dJ6_getChars_ba4f3_109 : decode cJ6_getChars_ba4f3 109 = .ok (.aload_n 2, 1) := by decide +kernel
