theorem dX0_isLeapNumber_0 : decode cX0_isLeapNumber 0 = .ok (.lload_n 0, 1) := by decide +kernel
theorem dX0_isLeapNumber_1 : decode cX0_isLeapNumber 1 = .ok (.ldc2_w 7, 3) := by decide +kernel
theorem dX0_isLeapNumber_4 : decode cX0_isLeapNumber 4 = .ok (.lrem, 1) := by decide +kernel
theorem dX0_isLeapNumber_5 : decode cX0_isLeapNumber 5 = .ok (.lconst 0, 1) := by decide +kernel
theorem dX0_isLeapNumber_6 : decode cX0_isLeapNumber 6 = .ok (.lcmp, 1) := by decide +kernel
theorem dX0_isLeapNumber_7 : decode cX0_isLeapNumber 7 = .ok (.ifCond .eq 23, 3) := by decide +kernel
theorem dX0_isLeapNumber_10 : decode cX0_isLeapNumber 10 = .ok (.lload_n 0, 1) := by decide +kernel
theorem dX0_isLeapNumber_11 : decode cX0_isLeapNumber 11 = .ok (.ldc2_w 9, 3) := by decide +kernel
theorem dX0_isLeapNumber_14 : decode cX0_isLeapNumber 14 = .ok (.lrem, 1) := by decide +kernel
theorem dX0_isLeapNumber_15 : decode cX0_isLeapNumber 15 = .ok (.lconst 0, 1) := by decide +kernel
theorem dX0_isLeapNumber_16 : decode cX0_isLeapNumber 16 = .ok (.lcmp, 1) := by decide +kernel
theorem dX0_isLeapNumber_17 : decode cX0_isLeapNumber 17 = .ok (.ifCond .ne 17, 3) := by decide +kernel
theorem dX0_isLeapNumber_20 : decode cX0_isLeapNumber 20 = .ok (.lload_n 0, 1) := by decide +kernel
theorem dX0_isLeapNumber_21 : decode cX0_isLeapNumber 21 = .ok (.ldc2_w 11, 3) := by decide +kernel
theorem dX0_isLeapNumber_24 : decode cX0_isLeapNumber 24 = .ok (.lrem, 1) := by decide +kernel
theorem dX0_isLeapNumber_25 : decode cX0_isLeapNumber 25 = .ok (.lconst 0, 1) := by decide +kernel
theorem dX0_isLeapNumber_26 : decode cX0_isLeapNumber 26 = .ok (.lcmp, 1) := by decide +kernel
theorem dX0_isLeapNumber_27 : decode cX0_isLeapNumber 27 = .ok (.ifCond .eq 7, 3) := by decide +kernel
theorem dX0_isLeapNumber_30 : decode cX0_isLeapNumber 30 = .ok (.iconst 1, 1) := by decide +kernel
theorem dX0_isLeapNumber_31 : decode cX0_isLeapNumber 31 = .ok (.goto 4, 3) := by decide +kernel
theorem dX0_isLeapNumber_34 : decode cX0_isLeapNumber 34 = .ok (.iconst 0, 1) := by decide +kernel
theorem dX0_isLeapNumber_35 : decode cX0_isLeapNumber 35 = .ok (.ireturn, 1) := by decide +kernel
theorem dX0_yearLength_0 : decode cX0_yearLength 0 = .ok (.lload_n 0, 1) := by decide +kernel
theorem dX0_yearLength_1 : decode cX0_yearLength 1 = .ok (.invokestatic 13, 3) := by decide +kernel
theorem dX0_yearLength_4 : decode cX0_yearLength 4 = .ok (.ifCond .eq 9, 3) := by decide +kernel
theorem dX0_yearLength_7 : decode cX0_yearLength 7 = .ok (.sipush 366, 3) := by decide +kernel
theorem dX0_yearLength_10 : decode cX0_yearLength 10 = .ok (.goto 6, 3) := by decide +kernel
theorem dX0_yearLength_13 : decode cX0_yearLength 13 = .ok (.sipush 365, 3) := by decide +kernel
theorem dX0_yearLength_16 : decode cX0_yearLength 16 = .ok (.ireturn, 1) := by decide +kernel
theorem dX0_sideOf_0 : decode cX0_sideOf 0 = .ok (.iload_n 0, 1) := by decide +kernel
theorem dX0_sideOf_1 : decode cX0_sideOf 1 = .ok (.ifCond .le 7, 3) := by decide +kernel
theorem dX0_sideOf_4 : decode cX0_sideOf 4 = .ok (.iconst 1, 1) := by decide +kernel
theorem dX0_sideOf_5 : decode cX0_sideOf 5 = .ok (.goto 4, 3) := by decide +kernel
theorem dX0_sideOf_8 : decode cX0_sideOf 8 = .ok (.iconst 0, 1) := by decide +kernel
theorem dX0_sideOf_9 : decode cX0_sideOf 9 = .ok (.ireturn, 1) := by decide +kernel
theorem dX0_rankOf_0 : decode cX0_rankOf 0 = .ok (.iload_n 0, 1) := by decide +kernel
theorem dX0_rankOf_1 : decode cX0_rankOf 1 = .ok (.ifCond .le 7, 3) := by decide +kernel
theorem dX0_rankOf_4 : decode cX0_rankOf 4 = .ok (.iload_n 0, 1) := by decide +kernel
theorem dX0_rankOf_5 : decode cX0_rankOf 5 = .ok (.goto 6, 3) := by decide +kernel
theorem dX0_rankOf_8 : decode cX0_rankOf 8 = .ok (.iconst 1, 1) := by decide +kernel
theorem dX0_rankOf_9 : decode cX0_rankOf 9 = .ok (.iload_n 0, 1) := by decide +kernel
theorem dX0_rankOf_10 : decode cX0_rankOf 10 = .ok (.isub, 1) := by decide +kernel
theorem dX0_rankOf_11 : decode cX0_rankOf 11 = .ok (.ireturn, 1) := by decide +kernel
theorem dX0_yearOfRank_0 : decode cX0_yearOfRank 0 = .ok (.iload_n 1, 1) := by decide +kernel
theorem dX0_yearOfRank_1 : decode cX0_yearOfRank 1 = .ok (.iconst 1, 1) := by decide +kernel
theorem dX0_yearOfRank_2 : decode cX0_yearOfRank 2 = .ok (.if_icmp .ne 7, 3) := by decide +kernel
theorem dX0_yearOfRank_5 : decode cX0_yearOfRank 5 = .ok (.iload_n 0, 1) := by decide +kernel
theorem dX0_yearOfRank_6 : decode cX0_yearOfRank 6 = .ok (.goto 6, 3) := by decide +kernel
theorem dX0_yearOfRank_9 : decode cX0_yearOfRank 9 = .ok (.iconst 1, 1) := by decide +kernel
theorem dX0_yearOfRank_10 : decode cX0_yearOfRank 10 = .ok (.iload_n 0, 1) := by decide +kernel
theorem dX0_yearOfRank_11 : decode cX0_yearOfRank 11 = .ok (.isub, 1) := by decide +kernel
theorem dX0_yearOfRank_12 : decode cX0_yearOfRank 12 = .ok (.ireturn, 1) := by decide +kernel
theorem dX0_yearWithThing_0 : decode cX0_yearWithThing 0 = .ok (.iload_n 1, 1) := by decide +kernel
theorem dX0_yearWithThing_1 : decode cX0_yearWithThing 1 = .ok (.lookupswitch 38 #[(0, 27), (1, 29)], 27) := by decide +kernel
theorem dX0_yearWithThing_28 : decode cX0_yearWithThing 28 = .ok (.iload_n 2, 1) := by decide +kernel
theorem dX0_yearWithThing_29 : decode cX0_yearWithThing 29 = .ok (.ireturn, 1) := by decide +kernel
theorem dX0_yearWithThing_30 : decode cX0_yearWithThing 30 = .ok (.iload_n 2, 1) := by decide +kernel
theorem dX0_yearWithThing_31 : decode cX0_yearWithThing 31 = .ok (.iload_n 0, 1) := by decide +kernel
theorem dX0_yearWithThing_32 : decode cX0_yearWithThing 32 = .ok (.invokestatic 19, 3) := by decide +kernel
theorem dX0_yearWithThing_35 : decode cX0_yearWithThing 35 = .ok (.invokestatic 23, 3) := by decide +kernel
theorem dX0_yearWithThing_38 : decode cX0_yearWithThing 38 = .ok (.ireturn, 1) := by decide +kernel
theorem dX0_yearWithThing_39 : decode cX0_yearWithThing 39 = .ok (.iload_n 0, 1) := by decide +kernel
theorem dX0_yearWithThing_40 : decode cX0_yearWithThing 40 = .ok (.invokestatic 27, 3) := by decide +kernel
theorem dX0_yearWithThing_43 : decode cX0_yearWithThing 43 = .ok (.iload_n 2, 1) := by decide +kernel
theorem dX0_yearWithThing_44 : decode cX0_yearWithThing 44 = .ok (.invokestatic 23, 3) := by decide +kernel
theorem dX0_yearWithThing_47 : decode cX0_yearWithThing 47 = .ok (.ireturn, 1) := by decide +kernel
theorem dX0_monthLength_0 : decode cX0_monthLength 0 = .ok (.iload_n 0, 1) := by decide +kernel
theorem dX0_monthLength_1 : decode cX0_monthLength 1 = .ok (.tableswitch 70 2 11 #[55, 70, 67, 70, 67, 70, 70, 67, 70, 67], 55) := by decide +kernel
theorem dX0_monthLength_56 : decode cX0_monthLength 56 = .ok (.iload_n 1, 1) := by decide +kernel
theorem dX0_monthLength_57 : decode cX0_monthLength 57 = .ok (.ifCond .eq 8, 3) := by decide +kernel
theorem dX0_monthLength_60 : decode cX0_monthLength 60 = .ok (.bipush 29, 2) := by decide +kernel
theorem dX0_monthLength_62 : decode cX0_monthLength 62 = .ok (.goto 5, 3) := by decide +kernel
theorem dX0_monthLength_65 : decode cX0_monthLength 65 = .ok (.bipush 28, 2) := by decide +kernel
theorem dX0_monthLength_67 : decode cX0_monthLength 67 = .ok (.ireturn, 1) := by decide +kernel
theorem dX0_monthLength_68 : decode cX0_monthLength 68 = .ok (.bipush 30, 2) := by decide +kernel
theorem dX0_monthLength_70 : decode cX0_monthLength 70 = .ok (.ireturn, 1) := by decide +kernel
theorem dX0_monthLength_71 : decode cX0_monthLength 71 = .ok (.bipush 31, 2) := by decide +kernel
theorem dX0_monthLength_73 : decode cX0_monthLength 73 = .ok (.ireturn, 1) := by decide +kernel
theorem dX0_monthBehindFirst_0 : decode cX0_monthBehindFirst 0 = .ok (.iconst 1, 1) := by decide +kernel
theorem dX0_monthBehindFirst_1 : decode cX0_monthBehindFirst 1 = .ok (.iload_n 0, 1) := by decide +kernel
theorem dX0_monthBehindFirst_2 : decode cX0_monthBehindFirst 2 = .ok (.bipush 12, 2) := by decide +kernel
theorem dX0_monthBehindFirst_4 : decode cX0_monthBehindFirst 4 = .ok (.invokestatic 30, 3) := by decide +kernel
theorem dX0_monthBehindFirst_7 : decode cX0_monthBehindFirst 7 = .ok (.iadd, 1) := by decide +kernel
theorem dX0_monthBehindFirst_8 : decode cX0_monthBehindFirst 8 = .ok (.ireturn, 1) := by decide +kernel
theorem dX0_isInEachYear_0 : decode cX0_isInEachYear 0 = .ok (.iload_n 0, 1) := by decide +kernel
theorem dX0_isInEachYear_1 : decode cX0_isInEachYear 1 = .ok (.iconst 2, 1) := by decide +kernel
theorem dX0_isInEachYear_2 : decode cX0_isInEachYear 2 = .ok (.if_icmp .ne 9, 3) := by decide +kernel
theorem dX0_isInEachYear_5 : decode cX0_isInEachYear 5 = .ok (.iload_n 1, 1) := by decide +kernel
theorem dX0_isInEachYear_6 : decode cX0_isInEachYear 6 = .ok (.bipush 28, 2) := by decide +kernel
theorem dX0_isInEachYear_8 : decode cX0_isInEachYear 8 = .ok (.if_icmp .gt 7, 3) := by decide +kernel
theorem dX0_isInEachYear_11 : decode cX0_isInEachYear 11 = .ok (.iconst 1, 1) := by decide +kernel
theorem dX0_isInEachYear_12 : decode cX0_isInEachYear 12 = .ok (.goto 4, 3) := by decide +kernel
theorem dX0_isInEachYear_15 : decode cX0_isInEachYear 15 = .ok (.iconst 0, 1) := by decide +kernel
theorem dX0_isInEachYear_16 : decode cX0_isInEachYear 16 = .ok (.ireturn, 1) := by decide +kernel
theorem dX0_countOf_0 : decode cX0_countOf 0 = .ok (.ldc2_w 35, 3) := by decide +kernel
theorem dX0_countOf_3 : decode cX0_countOf 3 = .ok (.iload_n 0, 1) := by decide +kernel
theorem dX0_countOf_4 : decode cX0_countOf 4 = .ok (.i2l, 1) := by decide +kernel
theorem dX0_countOf_5 : decode cX0_countOf 5 = .ok (.lmul, 1) := by decide +kernel
theorem dX0_countOf_6 : decode cX0_countOf 6 = .ok (.iload_n 1, 1) := by decide +kernel
theorem dX0_countOf_7 : decode cX0_countOf 7 = .ok (.i2l, 1) := by decide +kernel
theorem dX0_countOf_8 : decode cX0_countOf 8 = .ok (.ladd, 1) := by decide +kernel
theorem dX0_countOf_9 : decode cX0_countOf 9 = .ok (.lconst 1, 1) := by decide +kernel
theorem dX0_countOf_10 : decode cX0_countOf 10 = .ok (.lsub, 1) := by decide +kernel
theorem dX0_countOf_11 : decode cX0_countOf 11 = .ok (.lreturn, 1) := by decide +kernel
theorem dX0_yearOfCount_0 : decode cX0_yearOfCount 0 = .ok (.lload_n 0, 1) := by decide +kernel
theorem dX0_yearOfCount_1 : decode cX0_yearOfCount 1 = .ok (.ldc2_w 35, 3) := by decide +kernel
theorem dX0_yearOfCount_4 : decode cX0_yearOfCount 4 = .ok (.invokestatic 37, 3) := by decide +kernel
theorem dX0_yearOfCount_7 : decode cX0_yearOfCount 7 = .ok (.l2i, 1) := by decide +kernel
theorem dX0_yearOfCount_8 : decode cX0_yearOfCount 8 = .ok (.ireturn, 1) := by decide +kernel
theorem dX0_monthOf_0 : decode cX0_monthOf 0 = .ok (.iconst 1, 1) := by decide +kernel
theorem dX0_monthOf_1 : decode cX0_monthOf 1 = .ok (.lload_n 0, 1) := by decide +kernel
theorem dX0_monthOf_2 : decode cX0_monthOf 2 = .ok (.ldc2_w 35, 3) := by decide +kernel
theorem dX0_monthOf_5 : decode cX0_monthOf 5 = .ok (.invokestatic 41, 3) := by decide +kernel
theorem dX0_monthOf_8 : decode cX0_monthOf 8 = .ok (.l2i, 1) := by decide +kernel
theorem dX0_monthOf_9 : decode cX0_monthOf 9 = .ok (.iadd, 1) := by decide +kernel
theorem dX0_monthOf_10 : decode cX0_monthOf 10 = .ok (.ireturn, 1) := by decide +kernel
theorem dX0_lengthOf_0 : decode cX0_lengthOf 0 = .ok (.lload_n 0, 1) := by decide +kernel
theorem dX0_lengthOf_1 : decode cX0_lengthOf 1 = .ok (.invokestatic 43, 3) := by decide +kernel
theorem dX0_lengthOf_4 : decode cX0_lengthOf 4 = .ok (.lload_n 0, 1) := by decide +kernel
theorem dX0_lengthOf_5 : decode cX0_lengthOf 5 = .ok (.invokestatic 47, 3) := by decide +kernel
theorem dX0_lengthOf_8 : decode cX0_lengthOf 8 = .ok (.i2l, 1) := by decide +kernel
theorem dX0_lengthOf_9 : decode cX0_lengthOf 9 = .ok (.invokestatic 13, 3) := by decide +kernel
theorem dX0_lengthOf_12 : decode cX0_lengthOf 12 = .ok (.invokestatic 50, 3) := by decide +kernel
theorem dX0_lengthOf_15 : decode cX0_lengthOf 15 = .ok (.ireturn, 1) := by decide +kernel
theorem dX0_isDayOfCount_0 : decode cX0_isDayOfCount 0 = .ok (.iload_n 2, 1) := by decide +kernel
theorem dX0_isDayOfCount_1 : decode cX0_isDayOfCount 1 = .ok (.iconst 1, 1) := by decide +kernel
theorem dX0_isDayOfCount_2 : decode cX0_isDayOfCount 2 = .ok (.if_icmp .lt 15, 3) := by decide +kernel
theorem dX0_isDayOfCount_5 : decode cX0_isDayOfCount 5 = .ok (.iload_n 2, 1) := by decide +kernel
theorem dX0_isDayOfCount_6 : decode cX0_isDayOfCount 6 = .ok (.lload_n 0, 1) := by decide +kernel
theorem dX0_isDayOfCount_7 : decode cX0_isDayOfCount 7 = .ok (.invokestatic 54, 3) := by decide +kernel
theorem dX0_isDayOfCount_10 : decode cX0_isDayOfCount 10 = .ok (.if_icmp .gt 7, 3) := by decide +kernel
theorem dX0_isDayOfCount_13 : decode cX0_isDayOfCount 13 = .ok (.iconst 1, 1) := by decide +kernel
theorem dX0_isDayOfCount_14 : decode cX0_isDayOfCount 14 = .ok (.goto 4, 3) := by decide +kernel
theorem dX0_isDayOfCount_17 : decode cX0_isDayOfCount 17 = .ok (.iconst 0, 1) := by decide +kernel
theorem dX0_isDayOfCount_18 : decode cX0_isDayOfCount 18 = .ok (.ireturn, 1) := by decide +kernel
theorem dX0_daysAheadOf_0 : decode cX0_daysAheadOf 0 = .ok (.iconst 0, 1) := by decide +kernel
theorem dX0_daysAheadOf_1 : decode cX0_daysAheadOf 1 = .ok (.istore_n 2, 1) := by decide +kernel
theorem dX0_daysAheadOf_2 : decode cX0_daysAheadOf 2 = .ok (.iconst 1, 1) := by decide +kernel
theorem dX0_daysAheadOf_3 : decode cX0_daysAheadOf 3 = .ok (.istore_n 3, 1) := by decide +kernel
theorem dX0_daysAheadOf_4 : decode cX0_daysAheadOf 4 = .ok (.iload_n 3, 1) := by decide +kernel
theorem dX0_daysAheadOf_5 : decode cX0_daysAheadOf 5 = .ok (.iload_n 0, 1) := by decide +kernel
theorem dX0_daysAheadOf_6 : decode cX0_daysAheadOf 6 = .ok (.if_icmp .ge 17, 3) := by decide +kernel
theorem dX0_daysAheadOf_9 : decode cX0_daysAheadOf 9 = .ok (.iload_n 2, 1) := by decide +kernel
theorem dX0_daysAheadOf_10 : decode cX0_daysAheadOf 10 = .ok (.iload_n 3, 1) := by decide +kernel
theorem dX0_daysAheadOf_11 : decode cX0_daysAheadOf 11 = .ok (.iload_n 1, 1) := by decide +kernel
theorem dX0_daysAheadOf_12 : decode cX0_daysAheadOf 12 = .ok (.invokestatic 50, 3) := by decide +kernel
theorem dX0_daysAheadOf_15 : decode cX0_daysAheadOf 15 = .ok (.iadd, 1) := by decide +kernel
theorem dX0_daysAheadOf_16 : decode cX0_daysAheadOf 16 = .ok (.istore_n 2, 1) := by decide +kernel
theorem dX0_daysAheadOf_17 : decode cX0_daysAheadOf 17 = .ok (.iinc 3 1, 3) := by decide +kernel
theorem dX0_daysAheadOf_20 : decode cX0_daysAheadOf 20 = .ok (.goto (-16), 3) := by decide +kernel
theorem dX0_daysAheadOf_23 : decode cX0_daysAheadOf 23 = .ok (.iload_n 2, 1) := by decide +kernel
theorem dX0_daysAheadOf_24 : decode cX0_daysAheadOf 24 = .ok (.ireturn, 1) := by decide +kernel
theorem dX0_monthOfPlace_0 : decode cX0_monthOfPlace 0 = .ok (.iconst 1, 1) := by decide +kernel
theorem dX0_monthOfPlace_1 : decode cX0_monthOfPlace 1 = .ok (.istore_n 2, 1) := by decide +kernel
theorem dX0_monthOfPlace_2 : decode cX0_monthOfPlace 2 = .ok (.iload_n 2, 1) := by decide +kernel
theorem dX0_monthOfPlace_3 : decode cX0_monthOfPlace 3 = .ok (.bipush 12, 2) := by decide +kernel
theorem dX0_monthOfPlace_5 : decode cX0_monthOfPlace 5 = .ok (.if_icmp .ge 20, 3) := by decide +kernel
theorem dX0_monthOfPlace_8 : decode cX0_monthOfPlace 8 = .ok (.iload_n 0, 1) := by decide +kernel
theorem dX0_monthOfPlace_9 : decode cX0_monthOfPlace 9 = .ok (.iload_n 2, 1) := by decide +kernel
theorem dX0_monthOfPlace_10 : decode cX0_monthOfPlace 10 = .ok (.iconst 1, 1) := by decide +kernel
theorem dX0_monthOfPlace_11 : decode cX0_monthOfPlace 11 = .ok (.iadd, 1) := by decide +kernel
theorem dX0_monthOfPlace_12 : decode cX0_monthOfPlace 12 = .ok (.iload_n 1, 1) := by decide +kernel
theorem dX0_monthOfPlace_13 : decode cX0_monthOfPlace 13 = .ok (.invokestatic 57, 3) := by decide +kernel
theorem dX0_monthOfPlace_16 : decode cX0_monthOfPlace 16 = .ok (.if_icmp .le 9, 3) := by decide +kernel
theorem dX0_monthOfPlace_19 : decode cX0_monthOfPlace 19 = .ok (.iinc 2 1, 3) := by decide +kernel
theorem dX0_monthOfPlace_22 : decode cX0_monthOfPlace 22 = .ok (.goto (-20), 3) := by decide +kernel
theorem dX0_monthOfPlace_25 : decode cX0_monthOfPlace 25 = .ok (.iload_n 2, 1) := by decide +kernel
theorem dX0_monthOfPlace_26 : decode cX0_monthOfPlace 26 = .ok (.ireturn, 1) := by decide +kernel
theorem dX0_placeOf_0 : decode cX0_placeOf 0 = .ok (.lload_n 0, 1) := by decide +kernel
theorem dX0_placeOf_1 : decode cX0_placeOf 1 = .ok (.invokestatic 43, 3) := by decide +kernel
theorem dX0_placeOf_4 : decode cX0_placeOf 4 = .ok (.lload_n 0, 1) := by decide +kernel
theorem dX0_placeOf_5 : decode cX0_placeOf 5 = .ok (.invokestatic 47, 3) := by decide +kernel
theorem dX0_placeOf_8 : decode cX0_placeOf 8 = .ok (.i2l, 1) := by decide +kernel
theorem dX0_placeOf_9 : decode cX0_placeOf 9 = .ok (.invokestatic 13, 3) := by decide +kernel
theorem dX0_placeOf_12 : decode cX0_placeOf 12 = .ok (.invokestatic 57, 3) := by decide +kernel
theorem dX0_placeOf_15 : decode cX0_placeOf 15 = .ok (.iload_n 2, 1) := by decide +kernel
theorem dX0_placeOf_16 : decode cX0_placeOf 16 = .ok (.iadd, 1) := by decide +kernel
theorem dX0_placeOf_17 : decode cX0_placeOf 17 = .ok (.ireturn, 1) := by decide +kernel
theorem dX0_dayNumberOf_0 : decode cX0_dayNumberOf 0 = .ok (.lload_n 0, 1) := by decide +kernel
theorem dX0_dayNumberOf_1 : decode cX0_dayNumberOf 1 = .ok (.invokestatic 47, 3) := by decide +kernel
theorem dX0_dayNumberOf_4 : decode cX0_dayNumberOf 4 = .ok (.i2l, 1) := by decide +kernel
theorem dX0_dayNumberOf_5 : decode cX0_dayNumberOf 5 = .ok (.lstore_n 3, 1) := by decide +kernel
theorem dX0_dayNumberOf_6 : decode cX0_dayNumberOf 6 = .ok (.lload_n 3, 1) := by decide +kernel
theorem dX0_dayNumberOf_7 : decode cX0_dayNumberOf 7 = .ok (.lconst 1, 1) := by decide +kernel
theorem dX0_dayNumberOf_8 : decode cX0_dayNumberOf 8 = .ok (.lsub, 1) := by decide +kernel
theorem dX0_dayNumberOf_9 : decode cX0_dayNumberOf 9 = .ok (.lstore 5, 2) := by decide +kernel
theorem dX0_dayNumberOf_11 : decode cX0_dayNumberOf 11 = .ok (.lload 5, 2) := by decide +kernel
theorem dX0_dayNumberOf_13 : decode cX0_dayNumberOf 13 = .ok (.ldc2_w 9, 3) := by decide +kernel
theorem dX0_dayNumberOf_16 : decode cX0_dayNumberOf 16 = .ok (.invokestatic 37, 3) := by decide +kernel
theorem dX0_dayNumberOf_19 : decode cX0_dayNumberOf 19 = .ok (.lload 5, 2) := by decide +kernel
theorem dX0_dayNumberOf_21 : decode cX0_dayNumberOf 21 = .ok (.ldc2_w 11, 3) := by decide +kernel
theorem dX0_dayNumberOf_24 : decode cX0_dayNumberOf 24 = .ok (.invokestatic 37, 3) := by decide +kernel
theorem dX0_dayNumberOf_27 : decode cX0_dayNumberOf 27 = .ok (.lsub, 1) := by decide +kernel
theorem dX0_dayNumberOf_28 : decode cX0_dayNumberOf 28 = .ok (.lload 5, 2) := by decide +kernel
theorem dX0_dayNumberOf_30 : decode cX0_dayNumberOf 30 = .ok (.ldc2_w 7, 3) := by decide +kernel
theorem dX0_dayNumberOf_33 : decode cX0_dayNumberOf 33 = .ok (.invokestatic 37, 3) := by decide +kernel
theorem dX0_dayNumberOf_36 : decode cX0_dayNumberOf 36 = .ok (.ladd, 1) := by decide +kernel
theorem dX0_dayNumberOf_37 : decode cX0_dayNumberOf 37 = .ok (.lconst 1, 1) := by decide +kernel
theorem dX0_dayNumberOf_38 : decode cX0_dayNumberOf 38 = .ok (.ladd, 1) := by decide +kernel
theorem dX0_dayNumberOf_39 : decode cX0_dayNumberOf 39 = .ok (.lstore 7, 2) := by decide +kernel
theorem dX0_dayNumberOf_41 : decode cX0_dayNumberOf 41 = .ok (.lload_n 0, 1) := by decide +kernel
theorem dX0_dayNumberOf_42 : decode cX0_dayNumberOf 42 = .ok (.invokestatic 43, 3) := by decide +kernel
theorem dX0_dayNumberOf_45 : decode cX0_dayNumberOf 45 = .ok (.lload_n 3, 1) := by decide +kernel
theorem dX0_dayNumberOf_46 : decode cX0_dayNumberOf 46 = .ok (.invokestatic 13, 3) := by decide +kernel
theorem dX0_dayNumberOf_49 : decode cX0_dayNumberOf 49 = .ok (.invokestatic 57, 3) := by decide +kernel
theorem dX0_dayNumberOf_52 : decode cX0_dayNumberOf 52 = .ok (.istore 9, 2) := by decide +kernel
theorem dX0_dayNumberOf_54 : decode cX0_dayNumberOf 54 = .ok (.ldc2_w 60, 3) := by decide +kernel
theorem dX0_dayNumberOf_57 : decode cX0_dayNumberOf 57 = .ok (.ldc2_w 62, 3) := by decide +kernel
theorem dX0_dayNumberOf_60 : decode cX0_dayNumberOf 60 = .ok (.lload_n 3, 1) := by decide +kernel
theorem dX0_dayNumberOf_61 : decode cX0_dayNumberOf 61 = .ok (.lmul, 1) := by decide +kernel
theorem dX0_dayNumberOf_62 : decode cX0_dayNumberOf 62 = .ok (.ladd, 1) := by decide +kernel
theorem dX0_dayNumberOf_63 : decode cX0_dayNumberOf 63 = .ok (.lload 7, 2) := by decide +kernel
theorem dX0_dayNumberOf_65 : decode cX0_dayNumberOf 65 = .ok (.ladd, 1) := by decide +kernel
theorem dX0_dayNumberOf_66 : decode cX0_dayNumberOf 66 = .ok (.iload 9, 2) := by decide +kernel
theorem dX0_dayNumberOf_68 : decode cX0_dayNumberOf 68 = .ok (.i2l, 1) := by decide +kernel
theorem dX0_dayNumberOf_69 : decode cX0_dayNumberOf 69 = .ok (.ladd, 1) := by decide +kernel
theorem dX0_dayNumberOf_70 : decode cX0_dayNumberOf 70 = .ok (.iload_n 2, 1) := by decide +kernel
theorem dX0_dayNumberOf_71 : decode cX0_dayNumberOf 71 = .ok (.i2l, 1) := by decide +kernel
theorem dX0_dayNumberOf_72 : decode cX0_dayNumberOf 72 = .ok (.ladd, 1) := by decide +kernel
theorem dX0_dayNumberOf_73 : decode cX0_dayNumberOf 73 = .ok (.lconst 1, 1) := by decide +kernel
theorem dX0_dayNumberOf_74 : decode cX0_dayNumberOf 74 = .ok (.lsub, 1) := by decide +kernel
theorem dX0_dayNumberOf_75 : decode cX0_dayNumberOf 75 = .ok (.lreturn, 1) := by decide +kernel
theorem dX0_weekdayOf_0 : decode cX0_weekdayOf 0 = .ok (.iconst 1, 1) := by decide +kernel
theorem dX0_weekdayOf_1 : decode cX0_weekdayOf 1 = .ok (.lload_n 0, 1) := by decide +kernel
theorem dX0_weekdayOf_2 : decode cX0_weekdayOf 2 = .ok (.ldc2_w 64, 3) := by decide +kernel
theorem dX0_weekdayOf_5 : decode cX0_weekdayOf 5 = .ok (.ladd, 1) := by decide +kernel
theorem dX0_weekdayOf_6 : decode cX0_weekdayOf 6 = .ok (.ldc2_w 66, 3) := by decide +kernel
theorem dX0_weekdayOf_9 : decode cX0_weekdayOf 9 = .ok (.invokestatic 41, 3) := by decide +kernel
theorem dX0_weekdayOf_12 : decode cX0_weekdayOf 12 = .ok (.l2i, 1) := by decide +kernel
theorem dX0_weekdayOf_13 : decode cX0_weekdayOf 13 = .ok (.iadd, 1) := by decide +kernel
theorem dX0_weekdayOf_14 : decode cX0_weekdayOf 14 = .ok (.ireturn, 1) := by decide +kernel
theorem dX0_monthsInUnits_0 : decode cX0_monthsInUnits 0 = .ok (.iload_n 0, 1) := by decide +kernel
theorem dX0_monthsInUnits_1 : decode cX0_monthsInUnits 1 = .ok (.i2l, 1) := by decide +kernel
theorem dX0_monthsInUnits_2 : decode cX0_monthsInUnits 2 = .ok (.iload_n 1, 1) := by decide +kernel
theorem dX0_monthsInUnits_3 : decode cX0_monthsInUnits 3 = .ok (.invokestatic 68, 3) := by decide +kernel
theorem dX0_monthsInUnits_6 : decode cX0_monthsInUnits 6 = .ok (.lmul, 1) := by decide +kernel
theorem dX0_monthsInUnits_7 : decode cX0_monthsInUnits 7 = .ok (.lreturn, 1) := by decide +kernel
theorem dX0_unitsInMonths_0 : decode cX0_unitsInMonths 0 = .ok (.iload_n 2, 1) := by decide +kernel
theorem dX0_unitsInMonths_1 : decode cX0_unitsInMonths 1 = .ok (.invokestatic 68, 3) := by decide +kernel
theorem dX0_unitsInMonths_4 : decode cX0_unitsInMonths 4 = .ok (.lstore_n 3, 1) := by decide +kernel
theorem dX0_unitsInMonths_5 : decode cX0_unitsInMonths 5 = .ok (.lload_n 3, 1) := by decide +kernel
theorem dX0_unitsInMonths_6 : decode cX0_unitsInMonths 6 = .ok (.lconst 1, 1) := by decide +kernel
theorem dX0_unitsInMonths_7 : decode cX0_unitsInMonths 7 = .ok (.lcmp, 1) := by decide +kernel
theorem dX0_unitsInMonths_8 : decode cX0_unitsInMonths 8 = .ok (.ifCond .ge 7, 3) := by decide +kernel
theorem dX0_unitsInMonths_11 : decode cX0_unitsInMonths 11 = .ok (.lconst 0, 1) := by decide +kernel
theorem dX0_unitsInMonths_12 : decode cX0_unitsInMonths 12 = .ok (.goto 6, 3) := by decide +kernel
theorem dX0_unitsInMonths_15 : decode cX0_unitsInMonths 15 = .ok (.lload_n 0, 1) := by decide +kernel
theorem dX0_unitsInMonths_16 : decode cX0_unitsInMonths 16 = .ok (.lload_n 3, 1) := by decide +kernel
theorem dX0_unitsInMonths_17 : decode cX0_unitsInMonths 17 = .ok (.ldiv, 1) := by decide +kernel
theorem dX0_unitsInMonths_18 : decode cX0_unitsInMonths 18 = .ok (.lreturn, 1) := by decide +kernel
theorem dX0_sizeOf_0 : decode cX0_sizeOf 0 = .ok (.iload_n 0, 1) := by decide +kernel
theorem dX0_sizeOf_1 : decode cX0_sizeOf 1 = .ok (.tableswitch 45 0 3 #[31, 33, 37, 41], 31) := by decide +kernel
theorem dX0_sizeOf_32 : decode cX0_sizeOf 32 = .ok (.lconst 1, 1) := by decide +kernel
theorem dX0_sizeOf_33 : decode cX0_sizeOf 33 = .ok (.lreturn, 1) := by decide +kernel
theorem dX0_sizeOf_34 : decode cX0_sizeOf 34 = .ok (.ldc2_w 35, 3) := by decide +kernel
theorem dX0_sizeOf_37 : decode cX0_sizeOf 37 = .ok (.lreturn, 1) := by decide +kernel
theorem dX0_sizeOf_38 : decode cX0_sizeOf 38 = .ok (.ldc2_w 72, 3) := by decide +kernel
theorem dX0_sizeOf_41 : decode cX0_sizeOf 41 = .ok (.lreturn, 1) := by decide +kernel
theorem dX0_sizeOf_42 : decode cX0_sizeOf 42 = .ok (.ldc2_w 74, 3) := by decide +kernel
theorem dX0_sizeOf_45 : decode cX0_sizeOf 45 = .ok (.lreturn, 1) := by decide +kernel
theorem dX0_sizeOf_46 : decode cX0_sizeOf 46 = .ok (.ldc2_w 76, 3) := by decide +kernel
theorem dX0_sizeOf_49 : decode cX0_sizeOf 49 = .ok (.lreturn, 1) := by decide +kernel
theorem dX1_init_0 : decode cX1_init 0 = .ok (.aload_n 0, 1) := by decide +kernel
theorem dX1_init_1 : decode cX1_init 1 = .ok (.invokespecial 1, 3) := by decide +kernel
theorem dX1_init_4 : decode cX1_init 4 = .ok (.aload_n 0, 1) := by decide +kernel
theorem dX1_init_5 : decode cX1_init 5 = .ok (.iconst 4, 1) := by decide +kernel
theorem dX1_init_6 : decode cX1_init 6 = .ok (.newarray .long, 2) := by decide +kernel
theorem dX1_init_8 : decode cX1_init 8 = .ok (.putfield 9, 3) := by decide +kernel
theorem dX1_init_11 : decode cX1_init 11 = .ok (.aload_n 0, 1) := by decide +kernel
theorem dX1_init_12 : decode cX1_init 12 = .ok (.iconst 4, 1) := by decide +kernel
theorem dX1_init_13 : decode cX1_init 13 = .ok (.newarray .int, 2) := by decide +kernel
theorem dX1_init_15 : decode cX1_init 15 = .ok (.putfield 13, 3) := by decide +kernel
theorem dX1_init_18 : decode cX1_init 18 = .ok (.aload_n 0, 1) := by decide +kernel
theorem dX1_init_19 : decode cX1_init 19 = .ok (.iconst 4, 1) := by decide +kernel
theorem dX1_init_20 : decode cX1_init 20 = .ok (.newarray .int, 2) := by decide +kernel
theorem dX1_init_22 : decode cX1_init 22 = .ok (.putfield 17, 3) := by decide +kernel
theorem dX1_init_25 : decode cX1_init 25 = .ok (.aload_n 0, 1) := by decide +kernel
theorem dX1_init_26 : decode cX1_init 26 = .ok (.iconst 4, 1) := by decide +kernel
theorem dX1_init_27 : decode cX1_init 27 = .ok (.newarray .int, 2) := by decide +kernel
theorem dX1_init_29 : decode cX1_init 29 = .ok (.putfield 20, 3) := by decide +kernel
theorem dX1_init_32 : decode cX1_init 32 = .ok (.aload_n 0, 1) := by decide +kernel
theorem dX1_init_33 : decode cX1_init 33 = .ok (.iconst 4, 1) := by decide +kernel
theorem dX1_init_34 : decode cX1_init 34 = .ok (.newarray .long, 2) := by decide +kernel
theorem dX1_init_36 : decode cX1_init 36 = .ok (.putfield 23, 3) := by decide +kernel
theorem dX1_init_39 : decode cX1_init 39 = .ok (.aload_n 0, 1) := by decide +kernel
theorem dX1_init_40 : decode cX1_init 40 = .ok (.iconst 4, 1) := by decide +kernel
theorem dX1_init_41 : decode cX1_init 41 = .ok (.newarray .int, 2) := by decide +kernel
theorem dX1_init_43 : decode cX1_init 43 = .ok (.putfield 26, 3) := by decide +kernel
theorem dX1_init_46 : decode cX1_init 46 = .ok (.aload_n 0, 1) := by decide +kernel
theorem dX1_init_47 : decode cX1_init 47 = .ok (.new 29, 3) := by decide +kernel
theorem dX1_init_50 : decode cX1_init 50 = .ok (.dup, 1) := by decide +kernel
theorem dX1_init_51 : decode cX1_init 51 = .ok (.invokespecial 31, 3) := by decide +kernel
theorem dX1_init_54 : decode cX1_init 54 = .ok (.putfield 32, 3) := by decide +kernel
theorem dX1_init_57 : decode cX1_init 57 = .ok (.aload_n 0, 1) := by decide +kernel
theorem dX1_init_58 : decode cX1_init 58 = .ok (.iconst 0, 1) := by decide +kernel
theorem dX1_init_59 : decode cX1_init 59 = .ok (.putfield 36, 3) := by decide +kernel
theorem dX1_init_62 : decode cX1_init 62 = .ok (.iconst 0, 1) := by decide +kernel
theorem dX1_init_63 : decode cX1_init 63 = .ok (.istore_n 1, 1) := by decide +kernel
theorem dX1_init_64 : decode cX1_init 64 = .ok (.iload_n 1, 1) := by decide +kernel
theorem dX1_init_65 : decode cX1_init 65 = .ok (.iconst 4, 1) := by decide +kernel
theorem dX1_init_66 : decode cX1_init 66 = .ok (.if_icmp .ge 30, 3) := by decide +kernel
theorem dX1_init_69 : decode cX1_init 69 = .ok (.aload_n 0, 1) := by decide +kernel
theorem dX1_init_70 : decode cX1_init 70 = .ok (.getfield 17, 3) := by decide +kernel
theorem dX1_init_73 : decode cX1_init 73 = .ok (.iload_n 1, 1) := by decide +kernel
theorem dX1_init_74 : decode cX1_init 74 = .ok (.iconst 1, 1) := by decide +kernel
theorem dX1_init_75 : decode cX1_init 75 = .ok (.iastore, 1) := by decide +kernel
theorem dX1_init_76 : decode cX1_init 76 = .ok (.aload_n 0, 1) := by decide +kernel
theorem dX1_init_77 : decode cX1_init 77 = .ok (.getfield 20, 3) := by decide +kernel
theorem dX1_init_80 : decode cX1_init 80 = .ok (.iload_n 1, 1) := by decide +kernel
theorem dX1_init_81 : decode cX1_init 81 = .ok (.iconst 1, 1) := by decide +kernel
theorem dX1_init_82 : decode cX1_init 82 = .ok (.iastore, 1) := by decide +kernel
theorem dX1_init_83 : decode cX1_init 83 = .ok (.aload_n 0, 1) := by decide +kernel
theorem dX1_init_84 : decode cX1_init 84 = .ok (.getfield 26, 3) := by decide +kernel
theorem dX1_init_87 : decode cX1_init 87 = .ok (.iload_n 1, 1) := by decide +kernel
theorem dX1_init_88 : decode cX1_init 88 = .ok (.iconst 1, 1) := by decide +kernel
theorem dX1_init_89 : decode cX1_init 89 = .ok (.iastore, 1) := by decide +kernel
theorem dX1_init_90 : decode cX1_init 90 = .ok (.iinc 1 1, 3) := by decide +kernel
theorem dX1_init_93 : decode cX1_init 93 = .ok (.goto (-29), 3) := by decide +kernel
theorem dX1_init_96 : decode cX1_init 96 = .ok (.return_, 1) := by decide +kernel
theorem dX1_leaf_0 : decode cX1_leaf 0 = .ok (.iload_n 1, 1) := by decide +kernel
theorem dX1_leaf_1 : decode cX1_leaf 1 = .ok (.invokestatic 40, 3) := by decide +kernel
theorem dX1_leaf_4 : decode cX1_leaf 4 = .ok (.iload_n 2, 1) := by decide +kernel
theorem dX1_leaf_5 : decode cX1_leaf 5 = .ok (.invokestatic 44, 3) := by decide +kernel
theorem dX1_leaf_8 : decode cX1_leaf 8 = .ok (.iload_n 3, 1) := by decide +kernel
theorem dX1_leaf_9 : decode cX1_leaf 9 = .ok (.invokestatic 47, 3) := by decide +kernel
theorem dX1_leaf_12 : decode cX1_leaf 12 = .ok (.aload_n 0, 1) := by decide +kernel
theorem dX1_leaf_13 : decode cX1_leaf 13 = .ok (.iload_n 1, 1) := by decide +kernel
theorem dX1_leaf_14 : decode cX1_leaf 14 = .ok (.iload_n 2, 1) := by decide +kernel
theorem dX1_leaf_15 : decode cX1_leaf 15 = .ok (.iload_n 3, 1) := by decide +kernel
theorem dX1_leaf_16 : decode cX1_leaf 16 = .ok (.invokestatic 50, 3) := by decide +kernel
theorem dX1_leaf_19 : decode cX1_leaf 19 = .ok (.invokevirtual 56, 3) := by decide +kernel
theorem dX1_leaf_22 : decode cX1_leaf 22 = .ok (.ireturn, 1) := by decide +kernel
theorem dX1_leafRound_0 : decode cX1_leafRound 0 = .ok (.iload_n 1, 1) := by decide +kernel
theorem dX1_leafRound_1 : decode cX1_leafRound 1 = .ok (.invokestatic 40, 3) := by decide +kernel
theorem dX1_leafRound_4 : decode cX1_leafRound 4 = .ok (.iload_n 2, 1) := by decide +kernel
theorem dX1_leafRound_5 : decode cX1_leafRound 5 = .ok (.invokestatic 44, 3) := by decide +kernel
theorem dX1_leafRound_8 : decode cX1_leafRound 8 = .ok (.iload_n 3, 1) := by decide +kernel
theorem dX1_leafRound_9 : decode cX1_leafRound 9 = .ok (.invokestatic 60, 3) := by decide +kernel
theorem dX1_leafRound_12 : decode cX1_leafRound 12 = .ok (.istore 4, 2) := by decide +kernel
theorem dX1_leafRound_14 : decode cX1_leafRound 14 = .ok (.aload_n 0, 1) := by decide +kernel
theorem dX1_leafRound_15 : decode cX1_leafRound 15 = .ok (.iload_n 1, 1) := by decide +kernel
theorem dX1_leafRound_16 : decode cX1_leafRound 16 = .ok (.iload_n 2, 1) := by decide +kernel
theorem dX1_leafRound_17 : decode cX1_leafRound 17 = .ok (.iload 4, 2) := by decide +kernel
theorem dX1_leafRound_19 : decode cX1_leafRound 19 = .ok (.invokestatic 50, 3) := by decide +kernel
theorem dX1_leafRound_22 : decode cX1_leafRound 22 = .ok (.invokevirtual 56, 3) := by decide +kernel
theorem dX1_leafRound_25 : decode cX1_leafRound 25 = .ok (.pop, 1) := by decide +kernel
theorem dX1_leafRound_26 : decode cX1_leafRound 26 = .ok (.iload 4, 2) := by decide +kernel
theorem dX1_leafRound_28 : decode cX1_leafRound 28 = .ok (.ireturn, 1) := by decide +kernel
theorem dX1_months_0 : decode cX1_months 0 = .ok (.iload_n 1, 1) := by decide +kernel
theorem dX1_months_1 : decode cX1_months 1 = .ok (.invokestatic 40, 3) := by decide +kernel
theorem dX1_months_4 : decode cX1_months 4 = .ok (.aload_n 0, 1) := by decide +kernel
theorem dX1_months_5 : decode cX1_months 5 = .ok (.iload_n 1, 1) := by decide +kernel
theorem dX1_months_6 : decode cX1_months 6 = .ok (.iload_n 2, 1) := by decide +kernel
theorem dX1_months_7 : decode cX1_months 7 = .ok (.i2l, 1) := by decide +kernel
theorem dX1_months_8 : decode cX1_months 8 = .ok (.iload_n 3, 1) := by decide +kernel
theorem dX1_months_9 : decode cX1_months 9 = .ok (.invokevirtual 64, 3) := by decide +kernel
theorem dX1_months_12 : decode cX1_months 12 = .ok (.ireturn, 1) := by decide +kernel
theorem dX1_years_0 : decode cX1_years 0 = .ok (.iload_n 1, 1) := by decide +kernel
theorem dX1_years_1 : decode cX1_years 1 = .ok (.invokestatic 40, 3) := by decide +kernel
theorem dX1_years_4 : decode cX1_years 4 = .ok (.aload_n 0, 1) := by decide +kernel
theorem dX1_years_5 : decode cX1_years 5 = .ok (.iload_n 1, 1) := by decide +kernel
theorem dX1_years_6 : decode cX1_years 6 = .ok (.iload_n 2, 1) := by decide +kernel
theorem dX1_years_7 : decode cX1_years 7 = .ok (.iconst 1, 1) := by decide +kernel
theorem dX1_years_8 : decode cX1_years 8 = .ok (.invokestatic 68, 3) := by decide +kernel
theorem dX1_years_11 : decode cX1_years 11 = .ok (.iload_n 3, 1) := by decide +kernel
theorem dX1_years_12 : decode cX1_years 12 = .ok (.invokevirtual 64, 3) := by decide +kernel
theorem dX1_years_15 : decode cX1_years 15 = .ok (.ireturn, 1) := by decide +kernel
theorem dX1_units_0 : decode cX1_units 0 = .ok (.iload_n 1, 1) := by decide +kernel
theorem dX1_units_1 : decode cX1_units 1 = .ok (.invokestatic 40, 3) := by decide +kernel
theorem dX1_units_4 : decode cX1_units 4 = .ok (.iload_n 2, 1) := by decide +kernel
theorem dX1_units_5 : decode cX1_units 5 = .ok (.iconst 0, 1) := by decide +kernel
theorem dX1_units_6 : decode cX1_units 6 = .ok (.iconst 4, 1) := by decide +kernel
theorem dX1_units_7 : decode cX1_units 7 = .ok (.invokestatic 71, 3) := by decide +kernel
theorem dX1_units_10 : decode cX1_units 10 = .ok (.aload_n 0, 1) := by decide +kernel
theorem dX1_units_11 : decode cX1_units 11 = .ok (.iload_n 1, 1) := by decide +kernel
theorem dX1_units_12 : decode cX1_units 12 = .ok (.iload_n 3, 1) := by decide +kernel
theorem dX1_units_13 : decode cX1_units 13 = .ok (.iload_n 2, 1) := by decide +kernel
theorem dX1_units_14 : decode cX1_units 14 = .ok (.invokestatic 68, 3) := by decide +kernel
theorem dX1_units_17 : decode cX1_units 17 = .ok (.iload 4, 2) := by decide +kernel
theorem dX1_units_19 : decode cX1_units 19 = .ok (.invokevirtual 64, 3) := by decide +kernel
theorem dX1_units_22 : decode cX1_units 22 = .ok (.ireturn, 1) := by decide +kernel
theorem dX1_both_0 : decode cX1_both 0 = .ok (.iload_n 1, 1) := by decide +kernel
theorem dX1_both_1 : decode cX1_both 1 = .ok (.invokestatic 40, 3) := by decide +kernel
theorem dX1_both_4 : decode cX1_both 4 = .ok (.iload_n 2, 1) := by decide +kernel
theorem dX1_both_5 : decode cX1_both 5 = .ok (.ldc 75, 2) := by decide +kernel
theorem dX1_both_7 : decode cX1_both 7 = .ok (.ldc 76, 2) := by decide +kernel
theorem dX1_both_9 : decode cX1_both 9 = .ok (.invokestatic 71, 3) := by decide +kernel
theorem dX1_both_12 : decode cX1_both 12 = .ok (.iload_n 3, 1) := by decide +kernel
theorem dX1_both_13 : decode cX1_both 13 = .ok (.ldc 75, 2) := by decide +kernel
theorem dX1_both_15 : decode cX1_both 15 = .ok (.ldc 76, 2) := by decide +kernel
theorem dX1_both_17 : decode cX1_both 17 = .ok (.invokestatic 71, 3) := by decide +kernel
theorem dX1_both_20 : decode cX1_both 20 = .ok (.aload_n 0, 1) := by decide +kernel
theorem dX1_both_21 : decode cX1_both 21 = .ok (.iload_n 1, 1) := by decide +kernel
theorem dX1_both_22 : decode cX1_both 22 = .ok (.iload_n 2, 1) := by decide +kernel
theorem dX1_both_23 : decode cX1_both 23 = .ok (.iconst 1, 1) := by decide +kernel
theorem dX1_both_24 : decode cX1_both 24 = .ok (.invokestatic 68, 3) := by decide +kernel
theorem dX1_both_27 : decode cX1_both 27 = .ok (.iload_n 3, 1) := by decide +kernel
theorem dX1_both_28 : decode cX1_both 28 = .ok (.i2l, 1) := by decide +kernel
theorem dX1_both_29 : decode cX1_both 29 = .ok (.ladd, 1) := by decide +kernel
theorem dX1_both_30 : decode cX1_both 30 = .ok (.iload 4, 2) := by decide +kernel
theorem dX1_both_32 : decode cX1_both 32 = .ok (.invokevirtual 64, 3) := by decide +kernel
theorem dX1_both_35 : decode cX1_both 35 = .ok (.ireturn, 1) := by decide +kernel
theorem dX1_leafYear_0 : decode cX1_leafYear 0 = .ok (.iload_n 1, 1) := by decide +kernel
theorem dX1_leafYear_1 : decode cX1_leafYear 1 = .ok (.invokestatic 40, 3) := by decide +kernel
theorem dX1_leafYear_4 : decode cX1_leafYear 4 = .ok (.iload_n 2, 1) := by decide +kernel
theorem dX1_leafYear_5 : decode cX1_leafYear 5 = .ok (.invokestatic 44, 3) := by decide +kernel
theorem dX1_leafYear_8 : decode cX1_leafYear 8 = .ok (.aload_n 0, 1) := by decide +kernel
theorem dX1_leafYear_9 : decode cX1_leafYear 9 = .ok (.getfield 9, 3) := by decide +kernel
theorem dX1_leafYear_12 : decode cX1_leafYear 12 = .ok (.iload_n 1, 1) := by decide +kernel
theorem dX1_leafYear_13 : decode cX1_leafYear 13 = .ok (.laload, 1) := by decide +kernel
theorem dX1_leafYear_14 : decode cX1_leafYear 14 = .ok (.lstore_n 3, 1) := by decide +kernel
theorem dX1_leafYear_15 : decode cX1_leafYear 15 = .ok (.aload_n 0, 1) := by decide +kernel
theorem dX1_leafYear_16 : decode cX1_leafYear 16 = .ok (.iload_n 1, 1) := by decide +kernel
theorem dX1_leafYear_17 : decode cX1_leafYear 17 = .ok (.iload_n 2, 1) := by decide +kernel
theorem dX1_leafYear_18 : decode cX1_leafYear 18 = .ok (.lload_n 3, 1) := by decide +kernel
theorem dX1_leafYear_19 : decode cX1_leafYear 19 = .ok (.invokestatic 77, 3) := by decide +kernel
theorem dX1_leafYear_22 : decode cX1_leafYear 22 = .ok (.invokestatic 50, 3) := by decide +kernel
theorem dX1_leafYear_25 : decode cX1_leafYear 25 = .ok (.invokevirtual 56, 3) := by decide +kernel
theorem dX1_leafYear_28 : decode cX1_leafYear 28 = .ok (.pop, 1) := by decide +kernel
theorem dX1_leafYear_29 : decode cX1_leafYear 29 = .ok (.lload_n 3, 1) := by decide +kernel
theorem dX1_leafYear_30 : decode cX1_leafYear 30 = .ok (.invokestatic 81, 3) := by decide +kernel
theorem dX1_leafYear_33 : decode cX1_leafYear 33 = .ok (.ireturn, 1) := by decide +kernel
theorem dX1_leafMonth_0 : decode cX1_leafMonth 0 = .ok (.iload_n 1, 1) := by decide +kernel
theorem dX1_leafMonth_1 : decode cX1_leafMonth 1 = .ok (.invokestatic 40, 3) := by decide +kernel
theorem dX1_leafMonth_4 : decode cX1_leafMonth 4 = .ok (.iload_n 2, 1) := by decide +kernel
theorem dX1_leafMonth_5 : decode cX1_leafMonth 5 = .ok (.invokestatic 47, 3) := by decide +kernel
theorem dX1_leafMonth_8 : decode cX1_leafMonth 8 = .ok (.aload_n 0, 1) := by decide +kernel
theorem dX1_leafMonth_9 : decode cX1_leafMonth 9 = .ok (.getfield 9, 3) := by decide +kernel
theorem dX1_leafMonth_12 : decode cX1_leafMonth 12 = .ok (.iload_n 1, 1) := by decide +kernel
theorem dX1_leafMonth_13 : decode cX1_leafMonth 13 = .ok (.laload, 1) := by decide +kernel
theorem dX1_leafMonth_14 : decode cX1_leafMonth 14 = .ok (.lstore_n 3, 1) := by decide +kernel
theorem dX1_leafMonth_15 : decode cX1_leafMonth 15 = .ok (.aload_n 0, 1) := by decide +kernel
theorem dX1_leafMonth_16 : decode cX1_leafMonth 16 = .ok (.iload_n 1, 1) := by decide +kernel
theorem dX1_leafMonth_17 : decode cX1_leafMonth 17 = .ok (.lload_n 3, 1) := by decide +kernel
theorem dX1_leafMonth_18 : decode cX1_leafMonth 18 = .ok (.invokestatic 81, 3) := by decide +kernel
theorem dX1_leafMonth_21 : decode cX1_leafMonth 21 = .ok (.iload_n 2, 1) := by decide +kernel
theorem dX1_leafMonth_22 : decode cX1_leafMonth 22 = .ok (.invokestatic 50, 3) := by decide +kernel
theorem dX1_leafMonth_25 : decode cX1_leafMonth 25 = .ok (.invokevirtual 56, 3) := by decide +kernel
theorem dX1_leafMonth_28 : decode cX1_leafMonth 28 = .ok (.pop, 1) := by decide +kernel
theorem dX1_leafMonth_29 : decode cX1_leafMonth 29 = .ok (.lload_n 3, 1) := by decide +kernel
theorem dX1_leafMonth_30 : decode cX1_leafMonth 30 = .ok (.invokestatic 77, 3) := by decide +kernel
theorem dX1_leafMonth_33 : decode cX1_leafMonth 33 = .ok (.ireturn, 1) := by decide +kernel
theorem dX1_leafWith_0 : decode cX1_leafWith 0 = .ok (.iload_n 1, 1) := by decide +kernel
theorem dX1_leafWith_1 : decode cX1_leafWith 1 = .ok (.invokestatic 40, 3) := by decide +kernel
theorem dX1_leafWith_4 : decode cX1_leafWith 4 = .ok (.iload_n 2, 1) := by decide +kernel
theorem dX1_leafWith_5 : decode cX1_leafWith 5 = .ok (.iconst 0, 1) := by decide +kernel
theorem dX1_leafWith_6 : decode cX1_leafWith 6 = .ok (.iconst 4, 1) := by decide +kernel
theorem dX1_leafWith_7 : decode cX1_leafWith 7 = .ok (.invokestatic 71, 3) := by decide +kernel
theorem dX1_leafWith_10 : decode cX1_leafWith 10 = .ok (.iload_n 2, 1) := by decide +kernel
theorem dX1_leafWith_11 : decode cX1_leafWith 11 = .ok (.iconst 4, 1) := by decide +kernel
theorem dX1_leafWith_12 : decode cX1_leafWith 12 = .ok (.if_icmp .ne 11, 3) := by decide +kernel
theorem dX1_leafWith_15 : decode cX1_leafWith 15 = .ok (.aload_n 0, 1) := by decide +kernel
theorem dX1_leafWith_16 : decode cX1_leafWith 16 = .ok (.iload_n 1, 1) := by decide +kernel
theorem dX1_leafWith_17 : decode cX1_leafWith 17 = .ok (.iload_n 3, 1) := by decide +kernel
theorem dX1_leafWith_18 : decode cX1_leafWith 18 = .ok (.i2l, 1) := by decide +kernel
theorem dX1_leafWith_19 : decode cX1_leafWith 19 = .ok (.invokevirtual 56, 3) := by decide +kernel
theorem dX1_leafWith_22 : decode cX1_leafWith 22 = .ok (.ireturn, 1) := by decide +kernel
theorem dX1_leafWith_23 : decode cX1_leafWith 23 = .ok (.aload_n 0, 1) := by decide +kernel
theorem dX1_leafWith_24 : decode cX1_leafWith 24 = .ok (.getfield 9, 3) := by decide +kernel
theorem dX1_leafWith_27 : decode cX1_leafWith 27 = .ok (.iload_n 1, 1) := by decide +kernel
theorem dX1_leafWith_28 : decode cX1_leafWith 28 = .ok (.laload, 1) := by decide +kernel
theorem dX1_leafWith_29 : decode cX1_leafWith 29 = .ok (.invokestatic 81, 3) := by decide +kernel
theorem dX1_leafWith_32 : decode cX1_leafWith 32 = .ok (.istore 4, 2) := by decide +kernel
theorem dX1_leafWith_34 : decode cX1_leafWith 34 = .ok (.iload_n 2, 1) := by decide +kernel
theorem dX1_leafWith_35 : decode cX1_leafWith 35 = .ok (.ifCond .ne 19, 3) := by decide +kernel
theorem dX1_leafWith_38 : decode cX1_leafWith 38 = .ok (.iload_n 3, 1) := by decide +kernel
theorem dX1_leafWith_39 : decode cX1_leafWith 39 = .ok (.invokestatic 47, 3) := by decide +kernel
theorem dX1_leafWith_42 : decode cX1_leafWith 42 = .ok (.aload_n 0, 1) := by decide +kernel
theorem dX1_leafWith_43 : decode cX1_leafWith 43 = .ok (.iload_n 1, 1) := by decide +kernel
theorem dX1_leafWith_44 : decode cX1_leafWith 44 = .ok (.iload 4, 2) := by decide +kernel
theorem dX1_leafWith_46 : decode cX1_leafWith 46 = .ok (.iload_n 3, 1) := by decide +kernel
theorem dX1_leafWith_47 : decode cX1_leafWith 47 = .ok (.invokestatic 50, 3) := by decide +kernel
theorem dX1_leafWith_50 : decode cX1_leafWith 50 = .ok (.invokevirtual 56, 3) := by decide +kernel
theorem dX1_leafWith_53 : decode cX1_leafWith 53 = .ok (.ireturn, 1) := by decide +kernel
theorem dX1_leafWith_54 : decode cX1_leafWith 54 = .ok (.iload_n 2, 1) := by decide +kernel
theorem dX1_leafWith_55 : decode cX1_leafWith 55 = .ok (.iconst 1, 1) := by decide +kernel
theorem dX1_leafWith_56 : decode cX1_leafWith 56 = .ok (.isub, 1) := by decide +kernel
theorem dX1_leafWith_57 : decode cX1_leafWith 57 = .ok (.iload_n 3, 1) := by decide +kernel
theorem dX1_leafWith_58 : decode cX1_leafWith 58 = .ok (.invokestatic 84, 3) := by decide +kernel
theorem dX1_leafWith_61 : decode cX1_leafWith 61 = .ok (.iload 4, 2) := by decide +kernel
theorem dX1_leafWith_63 : decode cX1_leafWith 63 = .ok (.iload_n 2, 1) := by decide +kernel
theorem dX1_leafWith_64 : decode cX1_leafWith 64 = .ok (.iconst 1, 1) := by decide +kernel
theorem dX1_leafWith_65 : decode cX1_leafWith 65 = .ok (.isub, 1) := by decide +kernel
theorem dX1_leafWith_66 : decode cX1_leafWith 66 = .ok (.iload_n 3, 1) := by decide +kernel
theorem dX1_leafWith_67 : decode cX1_leafWith 67 = .ok (.invokestatic 88, 3) := by decide +kernel
theorem dX1_leafWith_70 : decode cX1_leafWith 70 = .ok (.istore 5, 2) := by decide +kernel
theorem dX1_leafWith_72 : decode cX1_leafWith 72 = .ok (.aload_n 0, 1) := by decide +kernel
theorem dX1_leafWith_73 : decode cX1_leafWith 73 = .ok (.iload_n 1, 1) := by decide +kernel
theorem dX1_leafWith_74 : decode cX1_leafWith 74 = .ok (.iload 5, 2) := by decide +kernel
theorem dX1_leafWith_76 : decode cX1_leafWith 76 = .ok (.aload_n 0, 1) := by decide +kernel
theorem dX1_leafWith_77 : decode cX1_leafWith 77 = .ok (.getfield 9, 3) := by decide +kernel
theorem dX1_leafWith_80 : decode cX1_leafWith 80 = .ok (.iload_n 1, 1) := by decide +kernel
theorem dX1_leafWith_81 : decode cX1_leafWith 81 = .ok (.laload, 1) := by decide +kernel
theorem dX1_leafWith_82 : decode cX1_leafWith 82 = .ok (.invokestatic 77, 3) := by decide +kernel
theorem dX1_leafWith_85 : decode cX1_leafWith 85 = .ok (.invokestatic 50, 3) := by decide +kernel
theorem dX1_leafWith_88 : decode cX1_leafWith 88 = .ok (.invokevirtual 56, 3) := by decide +kernel
theorem dX1_leafWith_91 : decode cX1_leafWith 91 = .ok (.ireturn, 1) := by decide +kernel
theorem dX1_leafOf_0 : decode cX1_leafOf 0 = .ok (.iload_n 1, 1) := by decide +kernel
theorem dX1_leafOf_1 : decode cX1_leafOf 1 = .ok (.invokestatic 40, 3) := by decide +kernel
theorem dX1_leafOf_4 : decode cX1_leafOf 4 = .ok (.iload_n 2, 1) := by decide +kernel
theorem dX1_leafOf_5 : decode cX1_leafOf 5 = .ok (.invokestatic 40, 3) := by decide +kernel
theorem dX1_leafOf_8 : decode cX1_leafOf 8 = .ok (.iload_n 3, 1) := by decide +kernel
theorem dX1_leafOf_9 : decode cX1_leafOf 9 = .ok (.invokestatic 47, 3) := by decide +kernel
theorem dX1_leafOf_12 : decode cX1_leafOf 12 = .ok (.aload_n 0, 1) := by decide +kernel
theorem dX1_leafOf_13 : decode cX1_leafOf 13 = .ok (.iload_n 1, 1) := by decide +kernel
theorem dX1_leafOf_14 : decode cX1_leafOf 14 = .ok (.aload_n 0, 1) := by decide +kernel
theorem dX1_leafOf_15 : decode cX1_leafOf 15 = .ok (.getfield 13, 3) := by decide +kernel
theorem dX1_leafOf_18 : decode cX1_leafOf 18 = .ok (.iload_n 2, 1) := by decide +kernel
theorem dX1_leafOf_19 : decode cX1_leafOf 19 = .ok (.iaload, 1) := by decide +kernel
theorem dX1_leafOf_20 : decode cX1_leafOf 20 = .ok (.iload_n 3, 1) := by decide +kernel
theorem dX1_leafOf_21 : decode cX1_leafOf 21 = .ok (.invokestatic 50, 3) := by decide +kernel
theorem dX1_leafOf_24 : decode cX1_leafOf 24 = .ok (.invokevirtual 56, 3) := by decide +kernel
theorem dX1_leafOf_27 : decode cX1_leafOf 27 = .ok (.ireturn, 1) := by decide +kernel
theorem dX1_leafOfRound_0 : decode cX1_leafOfRound 0 = .ok (.iload_n 1, 1) := by decide +kernel
theorem dX1_leafOfRound_1 : decode cX1_leafOfRound 1 = .ok (.invokestatic 40, 3) := by decide +kernel
theorem dX1_leafOfRound_4 : decode cX1_leafOfRound 4 = .ok (.iload_n 2, 1) := by decide +kernel
theorem dX1_leafOfRound_5 : decode cX1_leafOfRound 5 = .ok (.invokestatic 40, 3) := by decide +kernel
theorem dX1_leafOfRound_8 : decode cX1_leafOfRound 8 = .ok (.iload_n 3, 1) := by decide +kernel
theorem dX1_leafOfRound_9 : decode cX1_leafOfRound 9 = .ok (.invokestatic 60, 3) := by decide +kernel
theorem dX1_leafOfRound_12 : decode cX1_leafOfRound 12 = .ok (.istore 4, 2) := by decide +kernel
theorem dX1_leafOfRound_14 : decode cX1_leafOfRound 14 = .ok (.aload_n 0, 1) := by decide +kernel
theorem dX1_leafOfRound_15 : decode cX1_leafOfRound 15 = .ok (.iload_n 1, 1) := by decide +kernel
theorem dX1_leafOfRound_16 : decode cX1_leafOfRound 16 = .ok (.aload_n 0, 1) := by decide +kernel
theorem dX1_leafOfRound_17 : decode cX1_leafOfRound 17 = .ok (.getfield 13, 3) := by decide +kernel
theorem dX1_leafOfRound_20 : decode cX1_leafOfRound 20 = .ok (.iload_n 2, 1) := by decide +kernel
theorem dX1_leafOfRound_21 : decode cX1_leafOfRound 21 = .ok (.iaload, 1) := by decide +kernel
theorem dX1_leafOfRound_22 : decode cX1_leafOfRound 22 = .ok (.iload 4, 2) := by decide +kernel
theorem dX1_leafOfRound_24 : decode cX1_leafOfRound 24 = .ok (.invokestatic 50, 3) := by decide +kernel
theorem dX1_leafOfRound_27 : decode cX1_leafOfRound 27 = .ok (.invokevirtual 56, 3) := by decide +kernel
theorem dX1_leafOfRound_30 : decode cX1_leafOfRound 30 = .ok (.pop, 1) := by decide +kernel
theorem dX1_leafOfRound_31 : decode cX1_leafOfRound 31 = .ok (.iload 4, 2) := by decide +kernel
theorem dX1_leafOfRound_33 : decode cX1_leafOfRound 33 = .ok (.ireturn, 1) := by decide +kernel
theorem dX1_leafOfDay_0 : decode cX1_leafOfDay 0 = .ok (.iload_n 1, 1) := by decide +kernel
theorem dX1_leafOfDay_1 : decode cX1_leafOfDay 1 = .ok (.invokestatic 40, 3) := by decide +kernel
theorem dX1_leafOfDay_4 : decode cX1_leafOfDay 4 = .ok (.iload_n 2, 1) := by decide +kernel
theorem dX1_leafOfDay_5 : decode cX1_leafOfDay 5 = .ok (.invokestatic 40, 3) := by decide +kernel
theorem dX1_leafOfDay_8 : decode cX1_leafOfDay 8 = .ok (.aload_n 0, 1) := by decide +kernel
theorem dX1_leafOfDay_9 : decode cX1_leafOfDay 9 = .ok (.iload_n 1, 1) := by decide +kernel
theorem dX1_leafOfDay_10 : decode cX1_leafOfDay 10 = .ok (.aload_n 0, 1) := by decide +kernel
theorem dX1_leafOfDay_11 : decode cX1_leafOfDay 11 = .ok (.getfield 23, 3) := by decide +kernel
theorem dX1_leafOfDay_14 : decode cX1_leafOfDay 14 = .ok (.iload_n 2, 1) := by decide +kernel
theorem dX1_leafOfDay_15 : decode cX1_leafOfDay 15 = .ok (.laload, 1) := by decide +kernel
theorem dX1_leafOfDay_16 : decode cX1_leafOfDay 16 = .ok (.invokevirtual 56, 3) := by decide +kernel
theorem dX1_leafOfDay_19 : decode cX1_leafOfDay 19 = .ok (.ireturn, 1) := by decide +kernel
theorem dX1_leafLike_0 : decode cX1_leafLike 0 = .ok (.iload_n 1, 1) := by decide +kernel
theorem dX1_leafLike_1 : decode cX1_leafLike 1 = .ok (.invokestatic 40, 3) := by decide +kernel
theorem dX1_leafLike_4 : decode cX1_leafLike 4 = .ok (.iload_n 2, 1) := by decide +kernel
theorem dX1_leafLike_5 : decode cX1_leafLike 5 = .ok (.invokestatic 40, 3) := by decide +kernel
theorem dX1_leafLike_8 : decode cX1_leafLike 8 = .ok (.aload_n 0, 1) := by decide +kernel
theorem dX1_leafLike_9 : decode cX1_leafLike 9 = .ok (.getfield 9, 3) := by decide +kernel
theorem dX1_leafLike_12 : decode cX1_leafLike 12 = .ok (.iload_n 1, 1) := by decide +kernel
theorem dX1_leafLike_13 : decode cX1_leafLike 13 = .ok (.laload, 1) := by decide +kernel
theorem dX1_leafLike_14 : decode cX1_leafLike 14 = .ok (.aload_n 0, 1) := by decide +kernel
theorem dX1_leafLike_15 : decode cX1_leafLike 15 = .ok (.getfield 9, 3) := by decide +kernel
theorem dX1_leafLike_18 : decode cX1_leafLike 18 = .ok (.iload_n 2, 1) := by decide +kernel
theorem dX1_leafLike_19 : decode cX1_leafLike 19 = .ok (.laload, 1) := by decide +kernel
theorem dX1_leafLike_20 : decode cX1_leafLike 20 = .ok (.lcmp, 1) := by decide +kernel
theorem dX1_leafLike_21 : decode cX1_leafLike 21 = .ok (.ifCond .ne 7, 3) := by decide +kernel
theorem dX1_leafLike_24 : decode cX1_leafLike 24 = .ok (.iconst 1, 1) := by decide +kernel
theorem dX1_leafLike_25 : decode cX1_leafLike 25 = .ok (.goto 4, 3) := by decide +kernel
theorem dX1_leafLike_28 : decode cX1_leafLike 28 = .ok (.iconst 0, 1) := by decide +kernel
theorem dX1_leafLike_29 : decode cX1_leafLike 29 = .ok (.invokestatic 92, 3) := by decide +kernel
theorem dX1_leafLike_32 : decode cX1_leafLike 32 = .ok (.istore_n 3, 1) := by decide +kernel
theorem dX1_leafLike_33 : decode cX1_leafLike 33 = .ok (.aload_n 0, 1) := by decide +kernel
theorem dX1_leafLike_34 : decode cX1_leafLike 34 = .ok (.getfield 9, 3) := by decide +kernel
theorem dX1_leafLike_37 : decode cX1_leafLike 37 = .ok (.iload_n 1, 1) := by decide +kernel
theorem dX1_leafLike_38 : decode cX1_leafLike 38 = .ok (.aload_n 0, 1) := by decide +kernel
theorem dX1_leafLike_39 : decode cX1_leafLike 39 = .ok (.getfield 9, 3) := by decide +kernel
theorem dX1_leafLike_42 : decode cX1_leafLike 42 = .ok (.iload_n 2, 1) := by decide +kernel
theorem dX1_leafLike_43 : decode cX1_leafLike 43 = .ok (.laload, 1) := by decide +kernel
theorem dX1_leafLike_44 : decode cX1_leafLike 44 = .ok (.lastore, 1) := by decide +kernel
theorem dX1_leafLike_45 : decode cX1_leafLike 45 = .ok (.iload_n 3, 1) := by decide +kernel
theorem dX1_leafLike_46 : decode cX1_leafLike 46 = .ok (.ireturn, 1) := by decide +kernel
theorem dX1_year_0 : decode cX1_year 0 = .ok (.iload_n 1, 1) := by decide +kernel
theorem dX1_year_1 : decode cX1_year 1 = .ok (.invokestatic 40, 3) := by decide +kernel
theorem dX1_year_4 : decode cX1_year 4 = .ok (.iload_n 2, 1) := by decide +kernel
theorem dX1_year_5 : decode cX1_year 5 = .ok (.invokestatic 44, 3) := by decide +kernel
theorem dX1_year_8 : decode cX1_year 8 = .ok (.aload_n 0, 1) := by decide +kernel
theorem dX1_year_9 : decode cX1_year 9 = .ok (.iload_n 1, 1) := by decide +kernel
theorem dX1_year_10 : decode cX1_year 10 = .ok (.iload_n 2, 1) := by decide +kernel
theorem dX1_year_11 : decode cX1_year 11 = .ok (.i2l, 1) := by decide +kernel
theorem dX1_year_12 : decode cX1_year 12 = .ok (.invokevirtual 96, 3) := by decide +kernel
theorem dX1_year_15 : decode cX1_year 15 = .ok (.ireturn, 1) := by decide +kernel
theorem dX1_later_0 : decode cX1_later 0 = .ok (.iload_n 1, 1) := by decide +kernel
theorem dX1_later_1 : decode cX1_later 1 = .ok (.invokestatic 40, 3) := by decide +kernel
theorem dX1_later_4 : decode cX1_later 4 = .ok (.aload_n 0, 1) := by decide +kernel
theorem dX1_later_5 : decode cX1_later 5 = .ok (.iload_n 1, 1) := by decide +kernel
theorem dX1_later_6 : decode cX1_later 6 = .ok (.iload_n 2, 1) := by decide +kernel
theorem dX1_later_7 : decode cX1_later 7 = .ok (.i2l, 1) := by decide +kernel
theorem dX1_later_8 : decode cX1_later 8 = .ok (.iload_n 3, 1) := by decide +kernel
theorem dX1_later_9 : decode cX1_later 9 = .ok (.invokevirtual 99, 3) := by decide +kernel
theorem dX1_later_12 : decode cX1_later 12 = .ok (.ireturn, 1) := by decide +kernel
theorem dX1_yearUnits_0 : decode cX1_yearUnits 0 = .ok (.iload_n 1, 1) := by decide +kernel
theorem dX1_yearUnits_1 : decode cX1_yearUnits 1 = .ok (.invokestatic 40, 3) := by decide +kernel
theorem dX1_yearUnits_4 : decode cX1_yearUnits 4 = .ok (.iload_n 2, 1) := by decide +kernel
theorem dX1_yearUnits_5 : decode cX1_yearUnits 5 = .ok (.iconst 1, 1) := by decide +kernel
theorem dX1_yearUnits_6 : decode cX1_yearUnits 6 = .ok (.iconst 4, 1) := by decide +kernel
theorem dX1_yearUnits_7 : decode cX1_yearUnits 7 = .ok (.invokestatic 71, 3) := by decide +kernel
theorem dX1_yearUnits_10 : decode cX1_yearUnits 10 = .ok (.aload_n 0, 1) := by decide +kernel
theorem dX1_yearUnits_11 : decode cX1_yearUnits 11 = .ok (.iload_n 1, 1) := by decide +kernel
theorem dX1_yearUnits_12 : decode cX1_yearUnits 12 = .ok (.iload_n 3, 1) := by decide +kernel
theorem dX1_yearUnits_13 : decode cX1_yearUnits 13 = .ok (.iload_n 2, 1) := by decide +kernel
theorem dX1_yearUnits_14 : decode cX1_yearUnits 14 = .ok (.invokestatic 68, 3) := by decide +kernel
theorem dX1_yearUnits_17 : decode cX1_yearUnits 17 = .ok (.ldc2_w 102, 3) := by decide +kernel
theorem dX1_yearUnits_20 : decode cX1_yearUnits 20 = .ok (.ldiv, 1) := by decide +kernel
theorem dX1_yearUnits_21 : decode cX1_yearUnits 21 = .ok (.iload 4, 2) := by decide +kernel
theorem dX1_yearUnits_23 : decode cX1_yearUnits 23 = .ok (.invokevirtual 99, 3) := by decide +kernel
theorem dX1_yearUnits_26 : decode cX1_yearUnits 26 = .ok (.ireturn, 1) := by decide +kernel
theorem dX1_yearWith_0 : decode cX1_yearWith 0 = .ok (.iload_n 1, 1) := by decide +kernel
theorem dX1_yearWith_1 : decode cX1_yearWith 1 = .ok (.invokestatic 40, 3) := by decide +kernel
theorem dX1_yearWith_4 : decode cX1_yearWith 4 = .ok (.iload_n 2, 1) := by decide +kernel
theorem dX1_yearWith_5 : decode cX1_yearWith 5 = .ok (.iconst 0, 1) := by decide +kernel
theorem dX1_yearWith_6 : decode cX1_yearWith 6 = .ok (.iconst 2, 1) := by decide +kernel
theorem dX1_yearWith_7 : decode cX1_yearWith 7 = .ok (.invokestatic 71, 3) := by decide +kernel
theorem dX1_yearWith_10 : decode cX1_yearWith 10 = .ok (.iload_n 2, 1) := by decide +kernel
theorem dX1_yearWith_11 : decode cX1_yearWith 11 = .ok (.iload_n 3, 1) := by decide +kernel
theorem dX1_yearWith_12 : decode cX1_yearWith 12 = .ok (.invokestatic 84, 3) := by decide +kernel
theorem dX1_yearWith_15 : decode cX1_yearWith 15 = .ok (.aload_n 0, 1) := by decide +kernel
theorem dX1_yearWith_16 : decode cX1_yearWith 16 = .ok (.iload_n 1, 1) := by decide +kernel
theorem dX1_yearWith_17 : decode cX1_yearWith 17 = .ok (.aload_n 0, 1) := by decide +kernel
theorem dX1_yearWith_18 : decode cX1_yearWith 18 = .ok (.getfield 13, 3) := by decide +kernel
theorem dX1_yearWith_21 : decode cX1_yearWith 21 = .ok (.iload_n 1, 1) := by decide +kernel
theorem dX1_yearWith_22 : decode cX1_yearWith 22 = .ok (.iaload, 1) := by decide +kernel
theorem dX1_yearWith_23 : decode cX1_yearWith 23 = .ok (.iload_n 2, 1) := by decide +kernel
theorem dX1_yearWith_24 : decode cX1_yearWith 24 = .ok (.iload_n 3, 1) := by decide +kernel
theorem dX1_yearWith_25 : decode cX1_yearWith 25 = .ok (.invokestatic 88, 3) := by decide +kernel
theorem dX1_yearWith_28 : decode cX1_yearWith 28 = .ok (.i2l, 1) := by decide +kernel
theorem dX1_yearWith_29 : decode cX1_yearWith 29 = .ok (.invokevirtual 96, 3) := by decide +kernel
theorem dX1_yearWith_32 : decode cX1_yearWith 32 = .ok (.ireturn, 1) := by decide +kernel
theorem dX1_yearOf_0 : decode cX1_yearOf 0 = .ok (.iload_n 1, 1) := by decide +kernel
theorem dX1_yearOf_1 : decode cX1_yearOf 1 = .ok (.invokestatic 40, 3) := by decide +kernel
theorem dX1_yearOf_4 : decode cX1_yearOf 4 = .ok (.iload_n 3, 1) := by decide +kernel
theorem dX1_yearOf_5 : decode cX1_yearOf 5 = .ok (.invokestatic 40, 3) := by decide +kernel
theorem dX1_yearOf_8 : decode cX1_yearOf 8 = .ok (.aload_n 0, 1) := by decide +kernel
theorem dX1_yearOf_9 : decode cX1_yearOf 9 = .ok (.iload_n 1, 1) := by decide +kernel
theorem dX1_yearOf_10 : decode cX1_yearOf 10 = .ok (.iload_n 2, 1) := by decide +kernel
theorem dX1_yearOf_11 : decode cX1_yearOf 11 = .ok (.ifCond .eq 12, 3) := by decide +kernel
theorem dX1_yearOf_14 : decode cX1_yearOf 14 = .ok (.aload_n 0, 1) := by decide +kernel
theorem dX1_yearOf_15 : decode cX1_yearOf 15 = .ok (.getfield 23, 3) := by decide +kernel
theorem dX1_yearOf_18 : decode cX1_yearOf 18 = .ok (.iload_n 3, 1) := by decide +kernel
theorem dX1_yearOf_19 : decode cX1_yearOf 19 = .ok (.laload, 1) := by decide +kernel
theorem dX1_yearOf_20 : decode cX1_yearOf 20 = .ok (.goto 9, 3) := by decide +kernel
theorem dX1_yearOf_23 : decode cX1_yearOf 23 = .ok (.aload_n 0, 1) := by decide +kernel
theorem dX1_yearOf_24 : decode cX1_yearOf 24 = .ok (.getfield 9, 3) := by decide +kernel
theorem dX1_yearOf_27 : decode cX1_yearOf 27 = .ok (.iload_n 3, 1) := by decide +kernel
theorem dX1_yearOf_28 : decode cX1_yearOf 28 = .ok (.laload, 1) := by decide +kernel
theorem dX1_yearOf_29 : decode cX1_yearOf 29 = .ok (.invokestatic 81, 3) := by decide +kernel
theorem dX1_yearOf_32 : decode cX1_yearOf 32 = .ok (.i2l, 1) := by decide +kernel
theorem dX1_yearOf_33 : decode cX1_yearOf 33 = .ok (.invokevirtual 96, 3) := by decide +kernel
theorem dX1_yearOf_36 : decode cX1_yearOf 36 = .ok (.ireturn, 1) := by decide +kernel
theorem dX1_yearLike_0 : decode cX1_yearLike 0 = .ok (.iload_n 1, 1) := by decide +kernel
theorem dX1_yearLike_1 : decode cX1_yearLike 1 = .ok (.invokestatic 40, 3) := by decide +kernel
theorem dX1_yearLike_4 : decode cX1_yearLike 4 = .ok (.iload_n 2, 1) := by decide +kernel
theorem dX1_yearLike_5 : decode cX1_yearLike 5 = .ok (.invokestatic 40, 3) := by decide +kernel
theorem dX1_yearLike_8 : decode cX1_yearLike 8 = .ok (.aload_n 0, 1) := by decide +kernel
theorem dX1_yearLike_9 : decode cX1_yearLike 9 = .ok (.getfield 13, 3) := by decide +kernel
theorem dX1_yearLike_12 : decode cX1_yearLike 12 = .ok (.iload_n 1, 1) := by decide +kernel
theorem dX1_yearLike_13 : decode cX1_yearLike 13 = .ok (.iaload, 1) := by decide +kernel
theorem dX1_yearLike_14 : decode cX1_yearLike 14 = .ok (.aload_n 0, 1) := by decide +kernel
theorem dX1_yearLike_15 : decode cX1_yearLike 15 = .ok (.getfield 13, 3) := by decide +kernel
theorem dX1_yearLike_18 : decode cX1_yearLike 18 = .ok (.iload_n 2, 1) := by decide +kernel
theorem dX1_yearLike_19 : decode cX1_yearLike 19 = .ok (.iaload, 1) := by decide +kernel
theorem dX1_yearLike_20 : decode cX1_yearLike 20 = .ok (.if_icmp .ne 7, 3) := by decide +kernel
theorem dX1_yearLike_23 : decode cX1_yearLike 23 = .ok (.iconst 1, 1) := by decide +kernel
theorem dX1_yearLike_24 : decode cX1_yearLike 24 = .ok (.goto 4, 3) := by decide +kernel
theorem dX1_yearLike_27 : decode cX1_yearLike 27 = .ok (.iconst 0, 1) := by decide +kernel
theorem dX1_yearLike_28 : decode cX1_yearLike 28 = .ok (.invokestatic 92, 3) := by decide +kernel
theorem dX1_yearLike_31 : decode cX1_yearLike 31 = .ok (.istore_n 3, 1) := by decide +kernel
theorem dX1_yearLike_32 : decode cX1_yearLike 32 = .ok (.aload_n 0, 1) := by decide +kernel
theorem dX1_yearLike_33 : decode cX1_yearLike 33 = .ok (.getfield 13, 3) := by decide +kernel
theorem dX1_yearLike_36 : decode cX1_yearLike 36 = .ok (.iload_n 1, 1) := by decide +kernel
theorem dX1_yearLike_37 : decode cX1_yearLike 37 = .ok (.aload_n 0, 1) := by decide +kernel
theorem dX1_yearLike_38 : decode cX1_yearLike 38 = .ok (.getfield 13, 3) := by decide +kernel
theorem dX1_yearLike_41 : decode cX1_yearLike 41 = .ok (.iload_n 2, 1) := by decide +kernel
theorem dX1_yearLike_42 : decode cX1_yearLike 42 = .ok (.iaload, 1) := by decide +kernel
theorem dX1_yearLike_43 : decode cX1_yearLike 43 = .ok (.iastore, 1) := by decide +kernel
theorem dX1_yearLike_44 : decode cX1_yearLike 44 = .ok (.iload_n 3, 1) := by decide +kernel
theorem dX1_yearLike_45 : decode cX1_yearLike 45 = .ok (.ireturn, 1) := by decide +kernel
theorem dX1_feast_0 : decode cX1_feast 0 = .ok (.iload_n 1, 1) := by decide +kernel
theorem dX1_feast_1 : decode cX1_feast 1 = .ok (.invokestatic 40, 3) := by decide +kernel
theorem dX1_feast_4 : decode cX1_feast 4 = .ok (.iload_n 2, 1) := by decide +kernel
theorem dX1_feast_5 : decode cX1_feast 5 = .ok (.invokestatic 47, 3) := by decide +kernel
theorem dX1_feast_8 : decode cX1_feast 8 = .ok (.iload_n 3, 1) := by decide +kernel
theorem dX1_feast_9 : decode cX1_feast 9 = .ok (.invokestatic 104, 3) := by decide +kernel
theorem dX1_feast_12 : decode cX1_feast 12 = .ok (.aload_n 0, 1) := by decide +kernel
theorem dX1_feast_13 : decode cX1_feast 13 = .ok (.iload_n 1, 1) := by decide +kernel
theorem dX1_feast_14 : decode cX1_feast 14 = .ok (.iload_n 2, 1) := by decide +kernel
theorem dX1_feast_15 : decode cX1_feast 15 = .ok (.iload_n 3, 1) := by decide +kernel
theorem dX1_feast_16 : decode cX1_feast 16 = .ok (.invokevirtual 107, 3) := by decide +kernel
theorem dX1_feast_19 : decode cX1_feast 19 = .ok (.ifCond .ne 6, 3) := by decide +kernel
theorem dX1_feast_22 : decode cX1_feast 22 = .ok (.bipush (-9), 2) := by decide +kernel
theorem dX1_feast_24 : decode cX1_feast 24 = .ok (.ireturn, 1) := by decide +kernel
theorem dX1_feast_25 : decode cX1_feast 25 = .ok (.iload_n 2, 1) := by decide +kernel
theorem dX1_feast_26 : decode cX1_feast 26 = .ok (.iload_n 3, 1) := by decide +kernel
theorem dX1_feast_27 : decode cX1_feast 27 = .ok (.invokestatic 111, 3) := by decide +kernel
theorem dX1_feast_30 : decode cX1_feast 30 = .ok (.invokestatic 92, 3) := by decide +kernel
theorem dX1_feast_33 : decode cX1_feast 33 = .ok (.ireturn, 1) := by decide +kernel
theorem dX1_feastRound_0 : decode cX1_feastRound 0 = .ok (.iload_n 1, 1) := by decide +kernel
theorem dX1_feastRound_1 : decode cX1_feastRound 1 = .ok (.invokestatic 40, 3) := by decide +kernel
theorem dX1_feastRound_4 : decode cX1_feastRound 4 = .ok (.iload_n 3, 1) := by decide +kernel
theorem dX1_feastRound_5 : decode cX1_feastRound 5 = .ok (.invokestatic 104, 3) := by decide +kernel
theorem dX1_feastRound_8 : decode cX1_feastRound 8 = .ok (.iload_n 2, 1) := by decide +kernel
theorem dX1_feastRound_9 : decode cX1_feastRound 9 = .ok (.invokestatic 60, 3) := by decide +kernel
theorem dX1_feastRound_12 : decode cX1_feastRound 12 = .ok (.istore 4, 2) := by decide +kernel
theorem dX1_feastRound_14 : decode cX1_feastRound 14 = .ok (.aload_n 0, 1) := by decide +kernel
theorem dX1_feastRound_15 : decode cX1_feastRound 15 = .ok (.iload_n 1, 1) := by decide +kernel
theorem dX1_feastRound_16 : decode cX1_feastRound 16 = .ok (.iload 4, 2) := by decide +kernel
theorem dX1_feastRound_18 : decode cX1_feastRound 18 = .ok (.iload_n 3, 1) := by decide +kernel
theorem dX1_feastRound_19 : decode cX1_feastRound 19 = .ok (.invokevirtual 107, 3) := by decide +kernel
theorem dX1_feastRound_22 : decode cX1_feastRound 22 = .ok (.ifCond .eq 8, 3) := by decide +kernel
theorem dX1_feastRound_25 : decode cX1_feastRound 25 = .ok (.iload 4, 2) := by decide +kernel
theorem dX1_feastRound_27 : decode cX1_feastRound 27 = .ok (.goto 5, 3) := by decide +kernel
theorem dX1_feastRound_30 : decode cX1_feastRound 30 = .ok (.bipush (-9), 2) := by decide +kernel
theorem dX1_feastRound_32 : decode cX1_feastRound 32 = .ok (.ireturn, 1) := by decide +kernel
theorem dX1_feastMonth_0 : decode cX1_feastMonth 0 = .ok (.iload_n 1, 1) := by decide +kernel
theorem dX1_feastMonth_1 : decode cX1_feastMonth 1 = .ok (.invokestatic 40, 3) := by decide +kernel
theorem dX1_feastMonth_4 : decode cX1_feastMonth 4 = .ok (.iload_n 2, 1) := by decide +kernel
theorem dX1_feastMonth_5 : decode cX1_feastMonth 5 = .ok (.invokestatic 47, 3) := by decide +kernel
theorem dX1_feastMonth_8 : decode cX1_feastMonth 8 = .ok (.aload_n 0, 1) := by decide +kernel
theorem dX1_feastMonth_9 : decode cX1_feastMonth 9 = .ok (.getfield 20, 3) := by decide +kernel
theorem dX1_feastMonth_12 : decode cX1_feastMonth 12 = .ok (.iload_n 1, 1) := by decide +kernel
theorem dX1_feastMonth_13 : decode cX1_feastMonth 13 = .ok (.iaload, 1) := by decide +kernel
theorem dX1_feastMonth_14 : decode cX1_feastMonth 14 = .ok (.iload_n 2, 1) := by decide +kernel
theorem dX1_feastMonth_15 : decode cX1_feastMonth 15 = .ok (.iconst 1, 1) := by decide +kernel
theorem dX1_feastMonth_16 : decode cX1_feastMonth 16 = .ok (.invokestatic 115, 3) := by decide +kernel
theorem dX1_feastMonth_19 : decode cX1_feastMonth 19 = .ok (.invokestatic 119, 3) := by decide +kernel
theorem dX1_feastMonth_22 : decode cX1_feastMonth 22 = .ok (.istore 4, 2) := by decide +kernel
theorem dX1_feastMonth_24 : decode cX1_feastMonth 24 = .ok (.aload_n 0, 1) := by decide +kernel
theorem dX1_feastMonth_25 : decode cX1_feastMonth 25 = .ok (.iload_n 1, 1) := by decide +kernel
theorem dX1_feastMonth_26 : decode cX1_feastMonth 26 = .ok (.iload_n 2, 1) := by decide +kernel
theorem dX1_feastMonth_27 : decode cX1_feastMonth 27 = .ok (.iload 4, 2) := by decide +kernel
theorem dX1_feastMonth_29 : decode cX1_feastMonth 29 = .ok (.invokevirtual 107, 3) := by decide +kernel
theorem dX1_feastMonth_32 : decode cX1_feastMonth 32 = .ok (.pop, 1) := by decide +kernel
theorem dX1_feastMonth_33 : decode cX1_feastMonth 33 = .ok (.iload 4, 2) := by decide +kernel
theorem dX1_feastMonth_35 : decode cX1_feastMonth 35 = .ok (.ireturn, 1) := by decide +kernel
theorem dX1_feastDay_0 : decode cX1_feastDay 0 = .ok (.iload_n 1, 1) := by decide +kernel
theorem dX1_feastDay_1 : decode cX1_feastDay 1 = .ok (.invokestatic 40, 3) := by decide +kernel
theorem dX1_feastDay_4 : decode cX1_feastDay 4 = .ok (.iload_n 2, 1) := by decide +kernel
theorem dX1_feastDay_5 : decode cX1_feastDay 5 = .ok (.invokestatic 104, 3) := by decide +kernel
theorem dX1_feastDay_8 : decode cX1_feastDay 8 = .ok (.aload_n 0, 1) := by decide +kernel
theorem dX1_feastDay_9 : decode cX1_feastDay 9 = .ok (.getfield 20, 3) := by decide +kernel
theorem dX1_feastDay_12 : decode cX1_feastDay 12 = .ok (.iload_n 1, 1) := by decide +kernel
theorem dX1_feastDay_13 : decode cX1_feastDay 13 = .ok (.iaload, 1) := by decide +kernel
theorem dX1_feastDay_14 : decode cX1_feastDay 14 = .ok (.istore 4, 2) := by decide +kernel
theorem dX1_feastDay_16 : decode cX1_feastDay 16 = .ok (.aload_n 0, 1) := by decide +kernel
theorem dX1_feastDay_17 : decode cX1_feastDay 17 = .ok (.iload_n 1, 1) := by decide +kernel
theorem dX1_feastDay_18 : decode cX1_feastDay 18 = .ok (.aload_n 0, 1) := by decide +kernel
theorem dX1_feastDay_19 : decode cX1_feastDay 19 = .ok (.getfield 17, 3) := by decide +kernel
theorem dX1_feastDay_22 : decode cX1_feastDay 22 = .ok (.iload_n 1, 1) := by decide +kernel
theorem dX1_feastDay_23 : decode cX1_feastDay 23 = .ok (.iaload, 1) := by decide +kernel
theorem dX1_feastDay_24 : decode cX1_feastDay 24 = .ok (.iload_n 2, 1) := by decide +kernel
theorem dX1_feastDay_25 : decode cX1_feastDay 25 = .ok (.invokevirtual 107, 3) := by decide +kernel
theorem dX1_feastDay_28 : decode cX1_feastDay 28 = .ok (.ifCond .eq 8, 3) := by decide +kernel
theorem dX1_feastDay_31 : decode cX1_feastDay 31 = .ok (.iload 4, 2) := by decide +kernel
theorem dX1_feastDay_33 : decode cX1_feastDay 33 = .ok (.goto 5, 3) := by decide +kernel
theorem dX1_feastDay_36 : decode cX1_feastDay 36 = .ok (.bipush (-9), 2) := by decide +kernel
theorem dX1_feastDay_38 : decode cX1_feastDay 38 = .ok (.ireturn, 1) := by decide +kernel
theorem dX1_feastOf_0 : decode cX1_feastOf 0 = .ok (.iload_n 1, 1) := by decide +kernel
theorem dX1_feastOf_1 : decode cX1_feastOf 1 = .ok (.invokestatic 40, 3) := by decide +kernel
theorem dX1_feastOf_4 : decode cX1_feastOf 4 = .ok (.iload_n 2, 1) := by decide +kernel
theorem dX1_feastOf_5 : decode cX1_feastOf 5 = .ok (.invokestatic 40, 3) := by decide +kernel
theorem dX1_feastOf_8 : decode cX1_feastOf 8 = .ok (.aload_n 0, 1) := by decide +kernel
theorem dX1_feastOf_9 : decode cX1_feastOf 9 = .ok (.getfield 23, 3) := by decide +kernel
theorem dX1_feastOf_12 : decode cX1_feastOf 12 = .ok (.iload_n 2, 1) := by decide +kernel
theorem dX1_feastOf_13 : decode cX1_feastOf 13 = .ok (.laload, 1) := by decide +kernel
theorem dX1_feastOf_14 : decode cX1_feastOf 14 = .ok (.invokestatic 77, 3) := by decide +kernel
theorem dX1_feastOf_17 : decode cX1_feastOf 17 = .ok (.istore_n 3, 1) := by decide +kernel
theorem dX1_feastOf_18 : decode cX1_feastOf 18 = .ok (.aload_n 0, 1) := by decide +kernel
theorem dX1_feastOf_19 : decode cX1_feastOf 19 = .ok (.iload_n 1, 1) := by decide +kernel
theorem dX1_feastOf_20 : decode cX1_feastOf 20 = .ok (.iload_n 3, 1) := by decide +kernel
theorem dX1_feastOf_21 : decode cX1_feastOf 21 = .ok (.aload_n 0, 1) := by decide +kernel
theorem dX1_feastOf_22 : decode cX1_feastOf 22 = .ok (.getfield 26, 3) := by decide +kernel
theorem dX1_feastOf_25 : decode cX1_feastOf 25 = .ok (.iload_n 2, 1) := by decide +kernel
theorem dX1_feastOf_26 : decode cX1_feastOf 26 = .ok (.iaload, 1) := by decide +kernel
theorem dX1_feastOf_27 : decode cX1_feastOf 27 = .ok (.invokevirtual 107, 3) := by decide +kernel
theorem dX1_feastOf_30 : decode cX1_feastOf 30 = .ok (.pop, 1) := by decide +kernel
theorem dX1_feastOf_31 : decode cX1_feastOf 31 = .ok (.iload_n 3, 1) := by decide +kernel
theorem dX1_feastOf_32 : decode cX1_feastOf 32 = .ok (.aload_n 0, 1) := by decide +kernel
theorem dX1_feastOf_33 : decode cX1_feastOf 33 = .ok (.getfield 26, 3) := by decide +kernel
theorem dX1_feastOf_36 : decode cX1_feastOf 36 = .ok (.iload_n 2, 1) := by decide +kernel
theorem dX1_feastOf_37 : decode cX1_feastOf 37 = .ok (.iaload, 1) := by decide +kernel
theorem dX1_feastOf_38 : decode cX1_feastOf 38 = .ok (.invokestatic 111, 3) := by decide +kernel
theorem dX1_feastOf_41 : decode cX1_feastOf 41 = .ok (.invokestatic 92, 3) := by decide +kernel
theorem dX1_feastOf_44 : decode cX1_feastOf 44 = .ok (.ireturn, 1) := by decide +kernel
theorem dX1_feastLike_0 : decode cX1_feastLike 0 = .ok (.iload_n 1, 1) := by decide +kernel
theorem dX1_feastLike_1 : decode cX1_feastLike 1 = .ok (.invokestatic 40, 3) := by decide +kernel
theorem dX1_feastLike_4 : decode cX1_feastLike 4 = .ok (.iload_n 2, 1) := by decide +kernel
theorem dX1_feastLike_5 : decode cX1_feastLike 5 = .ok (.invokestatic 40, 3) := by decide +kernel
theorem dX1_feastLike_8 : decode cX1_feastLike 8 = .ok (.aload_n 0, 1) := by decide +kernel
theorem dX1_feastLike_9 : decode cX1_feastLike 9 = .ok (.iload_n 1, 1) := by decide +kernel
theorem dX1_feastLike_10 : decode cX1_feastLike 10 = .ok (.invokevirtual 125, 3) := by decide +kernel
theorem dX1_feastLike_13 : decode cX1_feastLike 13 = .ok (.aload_n 0, 1) := by decide +kernel
theorem dX1_feastLike_14 : decode cX1_feastLike 14 = .ok (.iload_n 2, 1) := by decide +kernel
theorem dX1_feastLike_15 : decode cX1_feastLike 15 = .ok (.invokevirtual 125, 3) := by decide +kernel
theorem dX1_feastLike_18 : decode cX1_feastLike 18 = .ok (.if_icmp .ne 7, 3) := by decide +kernel
theorem dX1_feastLike_21 : decode cX1_feastLike 21 = .ok (.iconst 1, 1) := by decide +kernel
theorem dX1_feastLike_22 : decode cX1_feastLike 22 = .ok (.goto 4, 3) := by decide +kernel
theorem dX1_feastLike_25 : decode cX1_feastLike 25 = .ok (.iconst 0, 1) := by decide +kernel
theorem dX1_feastLike_26 : decode cX1_feastLike 26 = .ok (.invokestatic 92, 3) := by decide +kernel
theorem dX1_feastLike_29 : decode cX1_feastLike 29 = .ok (.istore_n 3, 1) := by decide +kernel
theorem dX1_feastLike_30 : decode cX1_feastLike 30 = .ok (.aload_n 0, 1) := by decide +kernel
theorem dX1_feastLike_31 : decode cX1_feastLike 31 = .ok (.getfield 17, 3) := by decide +kernel
theorem dX1_feastLike_34 : decode cX1_feastLike 34 = .ok (.iload_n 1, 1) := by decide +kernel
theorem dX1_feastLike_35 : decode cX1_feastLike 35 = .ok (.aload_n 0, 1) := by decide +kernel
theorem dX1_feastLike_36 : decode cX1_feastLike 36 = .ok (.getfield 17, 3) := by decide +kernel
theorem dX1_feastLike_39 : decode cX1_feastLike 39 = .ok (.iload_n 2, 1) := by decide +kernel
theorem dX1_feastLike_40 : decode cX1_feastLike 40 = .ok (.iaload, 1) := by decide +kernel
theorem dX1_feastLike_41 : decode cX1_feastLike 41 = .ok (.iastore, 1) := by decide +kernel
theorem dX1_feastLike_42 : decode cX1_feastLike 42 = .ok (.aload_n 0, 1) := by decide +kernel
theorem dX1_feastLike_43 : decode cX1_feastLike 43 = .ok (.getfield 20, 3) := by decide +kernel
theorem dX1_feastLike_46 : decode cX1_feastLike 46 = .ok (.iload_n 1, 1) := by decide +kernel
theorem dX1_feastLike_47 : decode cX1_feastLike 47 = .ok (.aload_n 0, 1) := by decide +kernel
theorem dX1_feastLike_48 : decode cX1_feastLike 48 = .ok (.getfield 20, 3) := by decide +kernel
theorem dX1_feastLike_51 : decode cX1_feastLike 51 = .ok (.iload_n 2, 1) := by decide +kernel
theorem dX1_feastLike_52 : decode cX1_feastLike 52 = .ok (.iaload, 1) := by decide +kernel
theorem dX1_feastLike_53 : decode cX1_feastLike 53 = .ok (.iastore, 1) := by decide +kernel
theorem dX1_feastLike_54 : decode cX1_feastLike 54 = .ok (.iload_n 3, 1) := by decide +kernel
theorem dX1_feastLike_55 : decode cX1_feastLike 55 = .ok (.ireturn, 1) := by decide +kernel
theorem dX1_dayAt_0 : decode cX1_dayAt 0 = .ok (.iload_n 1, 1) := by decide +kernel
theorem dX1_dayAt_1 : decode cX1_dayAt 1 = .ok (.invokestatic 40, 3) := by decide +kernel
theorem dX1_dayAt_4 : decode cX1_dayAt 4 = .ok (.iload_n 2, 1) := by decide +kernel
theorem dX1_dayAt_5 : decode cX1_dayAt 5 = .ok (.invokestatic 40, 3) := by decide +kernel
theorem dX1_dayAt_8 : decode cX1_dayAt 8 = .ok (.iload_n 3, 1) := by decide +kernel
theorem dX1_dayAt_9 : decode cX1_dayAt 9 = .ok (.invokestatic 104, 3) := by decide +kernel
theorem dX1_dayAt_12 : decode cX1_dayAt 12 = .ok (.aload_n 0, 1) := by decide +kernel
theorem dX1_dayAt_13 : decode cX1_dayAt 13 = .ok (.getfield 9, 3) := by decide +kernel
theorem dX1_dayAt_16 : decode cX1_dayAt 16 = .ok (.iload_n 2, 1) := by decide +kernel
theorem dX1_dayAt_17 : decode cX1_dayAt 17 = .ok (.laload, 1) := by decide +kernel
theorem dX1_dayAt_18 : decode cX1_dayAt 18 = .ok (.iload_n 3, 1) := by decide +kernel
theorem dX1_dayAt_19 : decode cX1_dayAt 19 = .ok (.invokestatic 128, 3) := by decide +kernel
theorem dX1_dayAt_22 : decode cX1_dayAt 22 = .ok (.ifCond .ne 6, 3) := by decide +kernel
theorem dX1_dayAt_25 : decode cX1_dayAt 25 = .ok (.bipush (-9), 2) := by decide +kernel
theorem dX1_dayAt_27 : decode cX1_dayAt 27 = .ok (.ireturn, 1) := by decide +kernel
theorem dX1_dayAt_28 : decode cX1_dayAt 28 = .ok (.aload_n 0, 1) := by decide +kernel
theorem dX1_dayAt_29 : decode cX1_dayAt 29 = .ok (.iload_n 1, 1) := by decide +kernel
theorem dX1_dayAt_30 : decode cX1_dayAt 30 = .ok (.aload_n 0, 1) := by decide +kernel
theorem dX1_dayAt_31 : decode cX1_dayAt 31 = .ok (.getfield 9, 3) := by decide +kernel
theorem dX1_dayAt_34 : decode cX1_dayAt 34 = .ok (.iload_n 2, 1) := by decide +kernel
theorem dX1_dayAt_35 : decode cX1_dayAt 35 = .ok (.laload, 1) := by decide +kernel
theorem dX1_dayAt_36 : decode cX1_dayAt 36 = .ok (.iload_n 3, 1) := by decide +kernel
theorem dX1_dayAt_37 : decode cX1_dayAt 37 = .ok (.invokevirtual 132, 3) := by decide +kernel
theorem dX1_dayAt_40 : decode cX1_dayAt 40 = .ok (.aload_n 0, 1) := by decide +kernel
theorem dX1_dayAt_41 : decode cX1_dayAt 41 = .ok (.iload_n 1, 1) := by decide +kernel
theorem dX1_dayAt_42 : decode cX1_dayAt 42 = .ok (.invokevirtual 136, 3) := by decide +kernel
theorem dX1_dayAt_45 : decode cX1_dayAt 45 = .ok (.ireturn, 1) := by decide +kernel
theorem dX1_dayEnd_0 : decode cX1_dayEnd 0 = .ok (.iload_n 1, 1) := by decide +kernel
theorem dX1_dayEnd_1 : decode cX1_dayEnd 1 = .ok (.invokestatic 40, 3) := by decide +kernel
theorem dX1_dayEnd_4 : decode cX1_dayEnd 4 = .ok (.iload_n 2, 1) := by decide +kernel
theorem dX1_dayEnd_5 : decode cX1_dayEnd 5 = .ok (.invokestatic 40, 3) := by decide +kernel
theorem dX1_dayEnd_8 : decode cX1_dayEnd 8 = .ok (.aload_n 0, 1) := by decide +kernel
theorem dX1_dayEnd_9 : decode cX1_dayEnd 9 = .ok (.iload_n 1, 1) := by decide +kernel
theorem dX1_dayEnd_10 : decode cX1_dayEnd 10 = .ok (.aload_n 0, 1) := by decide +kernel
theorem dX1_dayEnd_11 : decode cX1_dayEnd 11 = .ok (.getfield 9, 3) := by decide +kernel
theorem dX1_dayEnd_14 : decode cX1_dayEnd 14 = .ok (.iload_n 2, 1) := by decide +kernel
theorem dX1_dayEnd_15 : decode cX1_dayEnd 15 = .ok (.laload, 1) := by decide +kernel
theorem dX1_dayEnd_16 : decode cX1_dayEnd 16 = .ok (.aload_n 0, 1) := by decide +kernel
theorem dX1_dayEnd_17 : decode cX1_dayEnd 17 = .ok (.getfield 9, 3) := by decide +kernel
theorem dX1_dayEnd_20 : decode cX1_dayEnd 20 = .ok (.iload_n 2, 1) := by decide +kernel
theorem dX1_dayEnd_21 : decode cX1_dayEnd 21 = .ok (.laload, 1) := by decide +kernel
theorem dX1_dayEnd_22 : decode cX1_dayEnd 22 = .ok (.invokestatic 139, 3) := by decide +kernel
theorem dX1_dayEnd_25 : decode cX1_dayEnd 25 = .ok (.invokevirtual 132, 3) := by decide +kernel
theorem dX1_dayEnd_28 : decode cX1_dayEnd 28 = .ok (.aload_n 0, 1) := by decide +kernel
theorem dX1_dayEnd_29 : decode cX1_dayEnd 29 = .ok (.getfield 26, 3) := by decide +kernel
theorem dX1_dayEnd_32 : decode cX1_dayEnd 32 = .ok (.iload_n 1, 1) := by decide +kernel
theorem dX1_dayEnd_33 : decode cX1_dayEnd 33 = .ok (.iaload, 1) := by decide +kernel
theorem dX1_dayEnd_34 : decode cX1_dayEnd 34 = .ok (.ireturn, 1) := by decide +kernel
theorem dX1_dayInYear_0 : decode cX1_dayInYear 0 = .ok (.iload_n 1, 1) := by decide +kernel
theorem dX1_dayInYear_1 : decode cX1_dayInYear 1 = .ok (.invokestatic 40, 3) := by decide +kernel
theorem dX1_dayInYear_4 : decode cX1_dayInYear 4 = .ok (.iload_n 2, 1) := by decide +kernel
theorem dX1_dayInYear_5 : decode cX1_dayInYear 5 = .ok (.invokestatic 40, 3) := by decide +kernel
theorem dX1_dayInYear_8 : decode cX1_dayInYear 8 = .ok (.iload_n 3, 1) := by decide +kernel
theorem dX1_dayInYear_9 : decode cX1_dayInYear 9 = .ok (.iconst 1, 1) := by decide +kernel
theorem dX1_dayInYear_10 : decode cX1_dayInYear 10 = .ok (.sipush 366, 3) := by decide +kernel
theorem dX1_dayInYear_13 : decode cX1_dayInYear 13 = .ok (.invokestatic 71, 3) := by decide +kernel
theorem dX1_dayInYear_16 : decode cX1_dayInYear 16 = .ok (.aload_n 0, 1) := by decide +kernel
theorem dX1_dayInYear_17 : decode cX1_dayInYear 17 = .ok (.getfield 13, 3) := by decide +kernel
theorem dX1_dayInYear_20 : decode cX1_dayInYear 20 = .ok (.iload_n 2, 1) := by decide +kernel
theorem dX1_dayInYear_21 : decode cX1_dayInYear 21 = .ok (.iaload, 1) := by decide +kernel
theorem dX1_dayInYear_22 : decode cX1_dayInYear 22 = .ok (.istore 4, 2) := by decide +kernel
theorem dX1_dayInYear_24 : decode cX1_dayInYear 24 = .ok (.iload_n 3, 1) := by decide +kernel
theorem dX1_dayInYear_25 : decode cX1_dayInYear 25 = .ok (.iload 4, 2) := by decide +kernel
theorem dX1_dayInYear_27 : decode cX1_dayInYear 27 = .ok (.i2l, 1) := by decide +kernel
theorem dX1_dayInYear_28 : decode cX1_dayInYear 28 = .ok (.invokestatic 142, 3) := by decide +kernel
theorem dX1_dayInYear_31 : decode cX1_dayInYear 31 = .ok (.if_icmp .le 6, 3) := by decide +kernel
theorem dX1_dayInYear_34 : decode cX1_dayInYear 34 = .ok (.bipush (-9), 2) := by decide +kernel
theorem dX1_dayInYear_36 : decode cX1_dayInYear 36 = .ok (.ireturn, 1) := by decide +kernel
theorem dX1_dayInYear_37 : decode cX1_dayInYear 37 = .ok (.iload 4, 2) := by decide +kernel
theorem dX1_dayInYear_39 : decode cX1_dayInYear 39 = .ok (.i2l, 1) := by decide +kernel
theorem dX1_dayInYear_40 : decode cX1_dayInYear 40 = .ok (.invokestatic 145, 3) := by decide +kernel
theorem dX1_dayInYear_43 : decode cX1_dayInYear 43 = .ok (.istore 5, 2) := by decide +kernel
theorem dX1_dayInYear_45 : decode cX1_dayInYear 45 = .ok (.iload_n 3, 1) := by decide +kernel
theorem dX1_dayInYear_46 : decode cX1_dayInYear 46 = .ok (.iload 5, 2) := by decide +kernel
theorem dX1_dayInYear_48 : decode cX1_dayInYear 48 = .ok (.invokestatic 149, 3) := by decide +kernel
theorem dX1_dayInYear_51 : decode cX1_dayInYear 51 = .ok (.istore 6, 2) := by decide +kernel
theorem dX1_dayInYear_53 : decode cX1_dayInYear 53 = .ok (.aload_n 0, 1) := by decide +kernel
theorem dX1_dayInYear_54 : decode cX1_dayInYear 54 = .ok (.iload_n 1, 1) := by decide +kernel
theorem dX1_dayInYear_55 : decode cX1_dayInYear 55 = .ok (.iload 4, 2) := by decide +kernel
theorem dX1_dayInYear_57 : decode cX1_dayInYear 57 = .ok (.iload 6, 2) := by decide +kernel
theorem dX1_dayInYear_59 : decode cX1_dayInYear 59 = .ok (.invokestatic 50, 3) := by decide +kernel
theorem dX1_dayInYear_62 : decode cX1_dayInYear 62 = .ok (.iload_n 3, 1) := by decide +kernel
theorem dX1_dayInYear_63 : decode cX1_dayInYear 63 = .ok (.iload 6, 2) := by decide +kernel
theorem dX1_dayInYear_65 : decode cX1_dayInYear 65 = .ok (.iload 5, 2) := by decide +kernel
theorem dX1_dayInYear_67 : decode cX1_dayInYear 67 = .ok (.invokestatic 152, 3) := by decide +kernel
theorem dX1_dayInYear_70 : decode cX1_dayInYear 70 = .ok (.isub, 1) := by decide +kernel
theorem dX1_dayInYear_71 : decode cX1_dayInYear 71 = .ok (.invokevirtual 132, 3) := by decide +kernel
theorem dX1_dayInYear_74 : decode cX1_dayInYear 74 = .ok (.iload 6, 2) := by decide +kernel
theorem dX1_dayInYear_76 : decode cX1_dayInYear 76 = .ok (.ireturn, 1) := by decide +kernel
theorem dX1_dayOfFeast_0 : decode cX1_dayOfFeast 0 = .ok (.iload_n 1, 1) := by decide +kernel
theorem dX1_dayOfFeast_1 : decode cX1_dayOfFeast 1 = .ok (.invokestatic 40, 3) := by decide +kernel
theorem dX1_dayOfFeast_4 : decode cX1_dayOfFeast 4 = .ok (.iload_n 2, 1) := by decide +kernel
theorem dX1_dayOfFeast_5 : decode cX1_dayOfFeast 5 = .ok (.invokestatic 40, 3) := by decide +kernel
theorem dX1_dayOfFeast_8 : decode cX1_dayOfFeast 8 = .ok (.iload_n 3, 1) := by decide +kernel
theorem dX1_dayOfFeast_9 : decode cX1_dayOfFeast 9 = .ok (.invokestatic 44, 3) := by decide +kernel
theorem dX1_dayOfFeast_12 : decode cX1_dayOfFeast 12 = .ok (.aload_n 0, 1) := by decide +kernel
theorem dX1_dayOfFeast_13 : decode cX1_dayOfFeast 13 = .ok (.iload_n 1, 1) := by decide +kernel
theorem dX1_dayOfFeast_14 : decode cX1_dayOfFeast 14 = .ok (.iload_n 2, 1) := by decide +kernel
theorem dX1_dayOfFeast_15 : decode cX1_dayOfFeast 15 = .ok (.iload_n 3, 1) := by decide +kernel
theorem dX1_dayOfFeast_16 : decode cX1_dayOfFeast 16 = .ok (.invokevirtual 155, 3) := by decide +kernel
theorem dX1_dayOfFeast_19 : decode cX1_dayOfFeast 19 = .ok (.aload_n 0, 1) := by decide +kernel
theorem dX1_dayOfFeast_20 : decode cX1_dayOfFeast 20 = .ok (.iload_n 1, 1) := by decide +kernel
theorem dX1_dayOfFeast_21 : decode cX1_dayOfFeast 21 = .ok (.invokevirtual 136, 3) := by decide +kernel
theorem dX1_dayOfFeast_24 : decode cX1_dayOfFeast 24 = .ok (.ireturn, 1) := by decide +kernel
theorem dX1_dayOfYear_0 : decode cX1_dayOfYear 0 = .ok (.iload_n 1, 1) := by decide +kernel
theorem dX1_dayOfYear_1 : decode cX1_dayOfYear 1 = .ok (.invokestatic 40, 3) := by decide +kernel
theorem dX1_dayOfYear_4 : decode cX1_dayOfYear 4 = .ok (.iload_n 2, 1) := by decide +kernel
theorem dX1_dayOfYear_5 : decode cX1_dayOfYear 5 = .ok (.invokestatic 40, 3) := by decide +kernel
theorem dX1_dayOfYear_8 : decode cX1_dayOfYear 8 = .ok (.iload_n 3, 1) := by decide +kernel
theorem dX1_dayOfYear_9 : decode cX1_dayOfYear 9 = .ok (.invokestatic 40, 3) := by decide +kernel
theorem dX1_dayOfYear_12 : decode cX1_dayOfYear 12 = .ok (.aload_n 0, 1) := by decide +kernel
theorem dX1_dayOfYear_13 : decode cX1_dayOfYear 13 = .ok (.iload_n 1, 1) := by decide +kernel
theorem dX1_dayOfYear_14 : decode cX1_dayOfYear 14 = .ok (.iload_n 3, 1) := by decide +kernel
theorem dX1_dayOfYear_15 : decode cX1_dayOfYear 15 = .ok (.aload_n 0, 1) := by decide +kernel
theorem dX1_dayOfYear_16 : decode cX1_dayOfYear 16 = .ok (.getfield 13, 3) := by decide +kernel
theorem dX1_dayOfYear_19 : decode cX1_dayOfYear 19 = .ok (.iload_n 2, 1) := by decide +kernel
theorem dX1_dayOfYear_20 : decode cX1_dayOfYear 20 = .ok (.iaload, 1) := by decide +kernel
theorem dX1_dayOfYear_21 : decode cX1_dayOfYear 21 = .ok (.invokevirtual 155, 3) := by decide +kernel
theorem dX1_dayOfYear_24 : decode cX1_dayOfYear 24 = .ok (.aload_n 0, 1) := by decide +kernel
theorem dX1_dayOfYear_25 : decode cX1_dayOfYear 25 = .ok (.getfield 26, 3) := by decide +kernel
theorem dX1_dayOfYear_28 : decode cX1_dayOfYear 28 = .ok (.iload_n 1, 1) := by decide +kernel
theorem dX1_dayOfYear_29 : decode cX1_dayOfYear 29 = .ok (.iaload, 1) := by decide +kernel
theorem dX1_dayOfYear_30 : decode cX1_dayOfYear 30 = .ok (.ireturn, 1) := by decide +kernel
theorem dX1_ofLeaf_0 : decode cX1_ofLeaf 0 = .ok (.iload_n 1, 1) := by decide +kernel
theorem dX1_ofLeaf_1 : decode cX1_ofLeaf 1 = .ok (.invokestatic 40, 3) := by decide +kernel
theorem dX1_ofLeaf_4 : decode cX1_ofLeaf 4 = .ok (.iload_n 2, 1) := by decide +kernel
theorem dX1_ofLeaf_5 : decode cX1_ofLeaf 5 = .ok (.iconst 0, 1) := by decide +kernel
theorem dX1_ofLeaf_6 : decode cX1_ofLeaf 6 = .ok (.bipush 7, 2) := by decide +kernel
theorem dX1_ofLeaf_8 : decode cX1_ofLeaf 8 = .ok (.invokestatic 71, 3) := by decide +kernel
theorem dX1_ofLeaf_11 : decode cX1_ofLeaf 11 = .ok (.aload_n 0, 1) := by decide +kernel
theorem dX1_ofLeaf_12 : decode cX1_ofLeaf 12 = .ok (.getfield 9, 3) := by decide +kernel
theorem dX1_ofLeaf_15 : decode cX1_ofLeaf 15 = .ok (.iload_n 1, 1) := by decide +kernel
theorem dX1_ofLeaf_16 : decode cX1_ofLeaf 16 = .ok (.laload, 1) := by decide +kernel
theorem dX1_ofLeaf_17 : decode cX1_ofLeaf 17 = .ok (.lstore_n 3, 1) := by decide +kernel
theorem dX1_ofLeaf_18 : decode cX1_ofLeaf 18 = .ok (.lload_n 3, 1) := by decide +kernel
theorem dX1_ofLeaf_19 : decode cX1_ofLeaf 19 = .ok (.invokestatic 81, 3) := by decide +kernel
theorem dX1_ofLeaf_22 : decode cX1_ofLeaf 22 = .ok (.istore 5, 2) := by decide +kernel
theorem dX1_ofLeaf_24 : decode cX1_ofLeaf 24 = .ok (.iload_n 2, 1) := by decide +kernel
theorem dX1_ofLeaf_25 : decode cX1_ofLeaf 25 = .ok (.tableswitch 84 0 7 #[47, 84, 50, 55, 62, 84, 72, 78], 47) := by decide +kernel
theorem dX1_ofLeaf_72 : decode cX1_ofLeaf 72 = .ok (.iload 5, 2) := by decide +kernel
theorem dX1_ofLeaf_74 : decode cX1_ofLeaf 74 = .ok (.ireturn, 1) := by decide +kernel
theorem dX1_ofLeaf_75 : decode cX1_ofLeaf 75 = .ok (.lload_n 3, 1) := by decide +kernel
theorem dX1_ofLeaf_76 : decode cX1_ofLeaf 76 = .ok (.invokestatic 139, 3) := by decide +kernel
theorem dX1_ofLeaf_79 : decode cX1_ofLeaf 79 = .ok (.ireturn, 1) := by decide +kernel
theorem dX1_ofLeaf_80 : decode cX1_ofLeaf 80 = .ok (.iload 5, 2) := by decide +kernel
theorem dX1_ofLeaf_82 : decode cX1_ofLeaf 82 = .ok (.i2l, 1) := by decide +kernel
theorem dX1_ofLeaf_83 : decode cX1_ofLeaf 83 = .ok (.invokestatic 142, 3) := by decide +kernel
theorem dX1_ofLeaf_86 : decode cX1_ofLeaf 86 = .ok (.ireturn, 1) := by decide +kernel
theorem dX1_ofLeaf_87 : decode cX1_ofLeaf 87 = .ok (.iload 5, 2) := by decide +kernel
theorem dX1_ofLeaf_89 : decode cX1_ofLeaf 89 = .ok (.i2l, 1) := by decide +kernel
theorem dX1_ofLeaf_90 : decode cX1_ofLeaf 90 = .ok (.invokestatic 145, 3) := by decide +kernel
theorem dX1_ofLeaf_93 : decode cX1_ofLeaf 93 = .ok (.invokestatic 92, 3) := by decide +kernel
theorem dX1_ofLeaf_96 : decode cX1_ofLeaf 96 = .ok (.ireturn, 1) := by decide +kernel
theorem dX1_ofLeaf_97 : decode cX1_ofLeaf 97 = .ok (.iload 5, 2) := by decide +kernel
theorem dX1_ofLeaf_99 : decode cX1_ofLeaf 99 = .ok (.invokestatic 158, 3) := by decide +kernel
theorem dX1_ofLeaf_102 : decode cX1_ofLeaf 102 = .ok (.ireturn, 1) := by decide +kernel
theorem dX1_ofLeaf_103 : decode cX1_ofLeaf 103 = .ok (.iload 5, 2) := by decide +kernel
theorem dX1_ofLeaf_105 : decode cX1_ofLeaf 105 = .ok (.invokestatic 161, 3) := by decide +kernel
theorem dX1_ofLeaf_108 : decode cX1_ofLeaf 108 = .ok (.ireturn, 1) := by decide +kernel
theorem dX1_ofLeaf_109 : decode cX1_ofLeaf 109 = .ok (.lload_n 3, 1) := by decide +kernel
theorem dX1_ofLeaf_110 : decode cX1_ofLeaf 110 = .ok (.invokestatic 77, 3) := by decide +kernel
theorem dX1_ofLeaf_113 : decode cX1_ofLeaf 113 = .ok (.ireturn, 1) := by decide +kernel
theorem dX1_count_0 : decode cX1_count 0 = .ok (.iload_n 1, 1) := by decide +kernel
theorem dX1_count_1 : decode cX1_count 1 = .ok (.invokestatic 40, 3) := by decide +kernel
theorem dX1_count_4 : decode cX1_count 4 = .ok (.aload_n 0, 1) := by decide +kernel
theorem dX1_count_5 : decode cX1_count 5 = .ok (.aload_n 0, 1) := by decide +kernel
theorem dX1_count_6 : decode cX1_count 6 = .ok (.getfield 9, 3) := by decide +kernel
theorem dX1_count_9 : decode cX1_count 9 = .ok (.iload_n 1, 1) := by decide +kernel
theorem dX1_count_10 : decode cX1_count 10 = .ok (.laload, 1) := by decide +kernel
theorem dX1_count_11 : decode cX1_count 11 = .ok (.invokevirtual 164, 3) := by decide +kernel
theorem dX1_count_14 : decode cX1_count 14 = .ok (.areturn, 1) := by decide +kernel
theorem dX1_hasDay_0 : decode cX1_hasDay 0 = .ok (.iload_n 1, 1) := by decide +kernel
theorem dX1_hasDay_1 : decode cX1_hasDay 1 = .ok (.invokestatic 40, 3) := by decide +kernel
theorem dX1_hasDay_4 : decode cX1_hasDay 4 = .ok (.aload_n 0, 1) := by decide +kernel
theorem dX1_hasDay_5 : decode cX1_hasDay 5 = .ok (.getfield 9, 3) := by decide +kernel
theorem dX1_hasDay_8 : decode cX1_hasDay 8 = .ok (.iload_n 1, 1) := by decide +kernel
theorem dX1_hasDay_9 : decode cX1_hasDay 9 = .ok (.laload, 1) := by decide +kernel
theorem dX1_hasDay_10 : decode cX1_hasDay 10 = .ok (.iload_n 2, 1) := by decide +kernel
theorem dX1_hasDay_11 : decode cX1_hasDay 11 = .ok (.invokestatic 128, 3) := by decide +kernel
theorem dX1_hasDay_14 : decode cX1_hasDay 14 = .ok (.ireturn, 1) := by decide +kernel
theorem dX1_leafOrder_0 : decode cX1_leafOrder 0 = .ok (.iload_n 1, 1) := by decide +kernel
theorem dX1_leafOrder_1 : decode cX1_leafOrder 1 = .ok (.invokestatic 40, 3) := by decide +kernel
theorem dX1_leafOrder_4 : decode cX1_leafOrder 4 = .ok (.iload_n 2, 1) := by decide +kernel
theorem dX1_leafOrder_5 : decode cX1_leafOrder 5 = .ok (.invokestatic 40, 3) := by decide +kernel
theorem dX1_leafOrder_8 : decode cX1_leafOrder 8 = .ok (.iload_n 3, 1) := by decide +kernel
theorem dX1_leafOrder_9 : decode cX1_leafOrder 9 = .ok (.iconst 0, 1) := by decide +kernel
theorem dX1_leafOrder_10 : decode cX1_leafOrder 10 = .ok (.iconst 2, 1) := by decide +kernel
theorem dX1_leafOrder_11 : decode cX1_leafOrder 11 = .ok (.invokestatic 71, 3) := by decide +kernel
theorem dX1_leafOrder_14 : decode cX1_leafOrder 14 = .ok (.aload_n 0, 1) := by decide +kernel
theorem dX1_leafOrder_15 : decode cX1_leafOrder 15 = .ok (.getfield 9, 3) := by decide +kernel
theorem dX1_leafOrder_18 : decode cX1_leafOrder 18 = .ok (.iload_n 1, 1) := by decide +kernel
theorem dX1_leafOrder_19 : decode cX1_leafOrder 19 = .ok (.laload, 1) := by decide +kernel
theorem dX1_leafOrder_20 : decode cX1_leafOrder 20 = .ok (.aload_n 0, 1) := by decide +kernel
theorem dX1_leafOrder_21 : decode cX1_leafOrder 21 = .ok (.getfield 9, 3) := by decide +kernel
theorem dX1_leafOrder_24 : decode cX1_leafOrder 24 = .ok (.iload_n 2, 1) := by decide +kernel
theorem dX1_leafOrder_25 : decode cX1_leafOrder 25 = .ok (.laload, 1) := by decide +kernel
theorem dX1_leafOrder_26 : decode cX1_leafOrder 26 = .ok (.iload_n 3, 1) := by decide +kernel
theorem dX1_leafOrder_27 : decode cX1_leafOrder 27 = .ok (.invokestatic 168, 3) := by decide +kernel
theorem dX1_leafOrder_30 : decode cX1_leafOrder 30 = .ok (.ireturn, 1) := by decide +kernel
theorem dX1_isLeaf_0 : decode cX1_isLeaf 0 = .ok (.iload_n 1, 1) := by decide +kernel
theorem dX1_isLeaf_1 : decode cX1_isLeaf 1 = .ok (.invokestatic 40, 3) := by decide +kernel
theorem dX1_isLeaf_4 : decode cX1_isLeaf 4 = .ok (.iload_n 3, 1) := by decide +kernel
theorem dX1_isLeaf_5 : decode cX1_isLeaf 5 = .ok (.invokestatic 40, 3) := by decide +kernel
theorem dX1_isLeaf_8 : decode cX1_isLeaf 8 = .ok (.iload_n 2, 1) := by decide +kernel
theorem dX1_isLeaf_9 : decode cX1_isLeaf 9 = .ok (.iconst 0, 1) := by decide +kernel
theorem dX1_isLeaf_10 : decode cX1_isLeaf 10 = .ok (.iconst 4, 1) := by decide +kernel
theorem dX1_isLeaf_11 : decode cX1_isLeaf 11 = .ok (.invokestatic 71, 3) := by decide +kernel
theorem dX1_isLeaf_14 : decode cX1_isLeaf 14 = .ok (.iload_n 2, 1) := by decide +kernel
theorem dX1_isLeaf_15 : decode cX1_isLeaf 15 = .ok (.ifCond .ne 23, 3) := by decide +kernel
theorem dX1_isLeaf_18 : decode cX1_isLeaf 18 = .ok (.aload_n 0, 1) := by decide +kernel
theorem dX1_isLeaf_19 : decode cX1_isLeaf 19 = .ok (.getfield 9, 3) := by decide +kernel
theorem dX1_isLeaf_22 : decode cX1_isLeaf 22 = .ok (.iload_n 1, 1) := by decide +kernel
theorem dX1_isLeaf_23 : decode cX1_isLeaf 23 = .ok (.laload, 1) := by decide +kernel
theorem dX1_isLeaf_24 : decode cX1_isLeaf 24 = .ok (.aload_n 0, 1) := by decide +kernel
theorem dX1_isLeaf_25 : decode cX1_isLeaf 25 = .ok (.getfield 9, 3) := by decide +kernel
theorem dX1_isLeaf_28 : decode cX1_isLeaf 28 = .ok (.iload_n 3, 1) := by decide +kernel
theorem dX1_isLeaf_29 : decode cX1_isLeaf 29 = .ok (.laload, 1) := by decide +kernel
theorem dX1_isLeaf_30 : decode cX1_isLeaf 30 = .ok (.lcmp, 1) := by decide +kernel
theorem dX1_isLeaf_31 : decode cX1_isLeaf 31 = .ok (.ifCond .ne 7, 3) := by decide +kernel
theorem dX1_isLeaf_34 : decode cX1_isLeaf 34 = .ok (.iconst 1, 1) := by decide +kernel
theorem dX1_isLeaf_35 : decode cX1_isLeaf 35 = .ok (.goto 4, 3) := by decide +kernel
theorem dX1_isLeaf_38 : decode cX1_isLeaf 38 = .ok (.iconst 0, 1) := by decide +kernel
theorem dX1_isLeaf_39 : decode cX1_isLeaf 39 = .ok (.ireturn, 1) := by decide +kernel
theorem dX1_leafTo_0 : decode cX1_leafTo 0 = .ok (.iload_n 1, 1) := by decide +kernel
theorem dX1_leafTo_1 : decode cX1_leafTo 1 = .ok (.invokestatic 40, 3) := by decide +kernel
theorem dX1_leafTo_4 : decode cX1_leafTo 4 = .ok (.iload_n 2, 1) := by decide +kernel
theorem dX1_leafTo_5 : decode cX1_leafTo 5 = .ok (.invokestatic 40, 3) := by decide +kernel
theorem dX1_leafTo_8 : decode cX1_leafTo 8 = .ok (.iload_n 3, 1) := by decide +kernel
theorem dX1_leafTo_9 : decode cX1_leafTo 9 = .ok (.iconst 0, 1) := by decide +kernel
theorem dX1_leafTo_10 : decode cX1_leafTo 10 = .ok (.iconst 4, 1) := by decide +kernel
theorem dX1_leafTo_11 : decode cX1_leafTo 11 = .ok (.invokestatic 71, 3) := by decide +kernel
theorem dX1_leafTo_14 : decode cX1_leafTo 14 = .ok (.aload_n 0, 1) := by decide +kernel
theorem dX1_leafTo_15 : decode cX1_leafTo 15 = .ok (.aload_n 0, 1) := by decide +kernel
theorem dX1_leafTo_16 : decode cX1_leafTo 16 = .ok (.iload_n 1, 1) := by decide +kernel
theorem dX1_leafTo_17 : decode cX1_leafTo 17 = .ok (.iload_n 2, 1) := by decide +kernel
theorem dX1_leafTo_18 : decode cX1_leafTo 18 = .ok (.iload_n 3, 1) := by decide +kernel
theorem dX1_leafTo_19 : decode cX1_leafTo 19 = .ok (.invokevirtual 172, 3) := by decide +kernel
theorem dX1_leafTo_22 : decode cX1_leafTo 22 = .ok (.invokevirtual 164, 3) := by decide +kernel
theorem dX1_leafTo_25 : decode cX1_leafTo 25 = .ok (.areturn, 1) := by decide +kernel
theorem dX1_ofYear_0 : decode cX1_ofYear 0 = .ok (.iload_n 1, 1) := by decide +kernel
theorem dX1_ofYear_1 : decode cX1_ofYear 1 = .ok (.invokestatic 40, 3) := by decide +kernel
theorem dX1_ofYear_4 : decode cX1_ofYear 4 = .ok (.iload_n 2, 1) := by decide +kernel
theorem dX1_ofYear_5 : decode cX1_ofYear 5 = .ok (.iconst 0, 1) := by decide +kernel
theorem dX1_ofYear_6 : decode cX1_ofYear 6 = .ok (.iconst 4, 1) := by decide +kernel
theorem dX1_ofYear_7 : decode cX1_ofYear 7 = .ok (.invokestatic 71, 3) := by decide +kernel
theorem dX1_ofYear_10 : decode cX1_ofYear 10 = .ok (.aload_n 0, 1) := by decide +kernel
theorem dX1_ofYear_11 : decode cX1_ofYear 11 = .ok (.getfield 13, 3) := by decide +kernel
theorem dX1_ofYear_14 : decode cX1_ofYear 14 = .ok (.iload_n 1, 1) := by decide +kernel
theorem dX1_ofYear_15 : decode cX1_ofYear 15 = .ok (.iaload, 1) := by decide +kernel
theorem dX1_ofYear_16 : decode cX1_ofYear 16 = .ok (.istore_n 3, 1) := by decide +kernel
theorem dX1_ofYear_17 : decode cX1_ofYear 17 = .ok (.iload_n 2, 1) := by decide +kernel
theorem dX1_ofYear_18 : decode cX1_ofYear 18 = .ok (.tableswitch 52 0 3 #[30, 32, 41, 47], 30) := by decide +kernel
theorem dX1_ofYear_48 : decode cX1_ofYear 48 = .ok (.iload_n 3, 1) := by decide +kernel
theorem dX1_ofYear_49 : decode cX1_ofYear 49 = .ok (.ireturn, 1) := by decide +kernel
theorem dX1_ofYear_50 : decode cX1_ofYear 50 = .ok (.iload_n 3, 1) := by decide +kernel
theorem dX1_ofYear_51 : decode cX1_ofYear 51 = .ok (.i2l, 1) := by decide +kernel
theorem dX1_ofYear_52 : decode cX1_ofYear 52 = .ok (.invokestatic 145, 3) := by decide +kernel
theorem dX1_ofYear_55 : decode cX1_ofYear 55 = .ok (.invokestatic 92, 3) := by decide +kernel
theorem dX1_ofYear_58 : decode cX1_ofYear 58 = .ok (.ireturn, 1) := by decide +kernel
theorem dX1_ofYear_59 : decode cX1_ofYear 59 = .ok (.iload_n 3, 1) := by decide +kernel
theorem dX1_ofYear_60 : decode cX1_ofYear 60 = .ok (.i2l, 1) := by decide +kernel
theorem dX1_ofYear_61 : decode cX1_ofYear 61 = .ok (.invokestatic 142, 3) := by decide +kernel
theorem dX1_ofYear_64 : decode cX1_ofYear 64 = .ok (.ireturn, 1) := by decide +kernel
theorem dX1_ofYear_65 : decode cX1_ofYear 65 = .ok (.iload_n 3, 1) := by decide +kernel
theorem dX1_ofYear_66 : decode cX1_ofYear 66 = .ok (.invokestatic 158, 3) := by decide +kernel
theorem dX1_ofYear_69 : decode cX1_ofYear 69 = .ok (.ireturn, 1) := by decide +kernel
theorem dX1_ofYear_70 : decode cX1_ofYear 70 = .ok (.iload_n 3, 1) := by decide +kernel
theorem dX1_ofYear_71 : decode cX1_ofYear 71 = .ok (.invokestatic 161, 3) := by decide +kernel
theorem dX1_ofYear_74 : decode cX1_ofYear 74 = .ok (.ireturn, 1) := by decide +kernel
theorem dX1_isLeap_0 : decode cX1_isLeap 0 = .ok (.iload_n 1, 1) := by decide +kernel
theorem dX1_isLeap_1 : decode cX1_isLeap 1 = .ok (.i2l, 1) := by decide +kernel
theorem dX1_isLeap_2 : decode cX1_isLeap 2 = .ok (.iload_n 2, 1) := by decide +kernel
theorem dX1_isLeap_3 : decode cX1_isLeap 3 = .ok (.i2l, 1) := by decide +kernel
theorem dX1_isLeap_4 : decode cX1_isLeap 4 = .ok (.lmul, 1) := by decide +kernel
theorem dX1_isLeap_5 : decode cX1_isLeap 5 = .ok (.invokestatic 145, 3) := by decide +kernel
theorem dX1_isLeap_8 : decode cX1_isLeap 8 = .ok (.ireturn, 1) := by decide +kernel
theorem dX1_hasFeast_0 : decode cX1_hasFeast 0 = .ok (.iload_n 1, 1) := by decide +kernel
theorem dX1_hasFeast_1 : decode cX1_hasFeast 1 = .ok (.invokestatic 40, 3) := by decide +kernel
theorem dX1_hasFeast_4 : decode cX1_hasFeast 4 = .ok (.iload_n 2, 1) := by decide +kernel
theorem dX1_hasFeast_5 : decode cX1_hasFeast 5 = .ok (.invokestatic 40, 3) := by decide +kernel
theorem dX1_hasFeast_8 : decode cX1_hasFeast 8 = .ok (.iload_n 3, 1) := by decide +kernel
theorem dX1_hasFeast_9 : decode cX1_hasFeast 9 = .ok (.ifCond .ne 21, 3) := by decide +kernel
theorem dX1_hasFeast_12 : decode cX1_hasFeast 12 = .ok (.aload_n 0, 1) := by decide +kernel
theorem dX1_hasFeast_13 : decode cX1_hasFeast 13 = .ok (.iload_n 2, 1) := by decide +kernel
theorem dX1_hasFeast_14 : decode cX1_hasFeast 14 = .ok (.aload_n 0, 1) := by decide +kernel
theorem dX1_hasFeast_15 : decode cX1_hasFeast 15 = .ok (.getfield 13, 3) := by decide +kernel
theorem dX1_hasFeast_18 : decode cX1_hasFeast 18 = .ok (.iload_n 1, 1) := by decide +kernel
theorem dX1_hasFeast_19 : decode cX1_hasFeast 19 = .ok (.iaload, 1) := by decide +kernel
theorem dX1_hasFeast_20 : decode cX1_hasFeast 20 = .ok (.invokevirtual 176, 3) := by decide +kernel
theorem dX1_hasFeast_23 : decode cX1_hasFeast 23 = .ok (.ifCond .eq 7, 3) := by decide +kernel
theorem dX1_hasFeast_26 : decode cX1_hasFeast 26 = .ok (.iconst 1, 1) := by decide +kernel
theorem dX1_hasFeast_27 : decode cX1_hasFeast 27 = .ok (.goto 4, 3) := by decide +kernel
theorem dX1_hasFeast_30 : decode cX1_hasFeast 30 = .ok (.iconst 0, 1) := by decide +kernel
theorem dX1_hasFeast_31 : decode cX1_hasFeast 31 = .ok (.ireturn, 1) := by decide +kernel
theorem dX1_yearOrder_0 : decode cX1_yearOrder 0 = .ok (.iload_n 1, 1) := by decide +kernel
theorem dX1_yearOrder_1 : decode cX1_yearOrder 1 = .ok (.invokestatic 40, 3) := by decide +kernel
theorem dX1_yearOrder_4 : decode cX1_yearOrder 4 = .ok (.iload_n 2, 1) := by decide +kernel
theorem dX1_yearOrder_5 : decode cX1_yearOrder 5 = .ok (.invokestatic 40, 3) := by decide +kernel
theorem dX1_yearOrder_8 : decode cX1_yearOrder 8 = .ok (.iload_n 3, 1) := by decide +kernel
theorem dX1_yearOrder_9 : decode cX1_yearOrder 9 = .ok (.iconst 0, 1) := by decide +kernel
theorem dX1_yearOrder_10 : decode cX1_yearOrder 10 = .ok (.iconst 2, 1) := by decide +kernel
theorem dX1_yearOrder_11 : decode cX1_yearOrder 11 = .ok (.invokestatic 71, 3) := by decide +kernel
theorem dX1_yearOrder_14 : decode cX1_yearOrder 14 = .ok (.aload_n 0, 1) := by decide +kernel
theorem dX1_yearOrder_15 : decode cX1_yearOrder 15 = .ok (.getfield 13, 3) := by decide +kernel
theorem dX1_yearOrder_18 : decode cX1_yearOrder 18 = .ok (.iload_n 1, 1) := by decide +kernel
theorem dX1_yearOrder_19 : decode cX1_yearOrder 19 = .ok (.iaload, 1) := by decide +kernel
theorem dX1_yearOrder_20 : decode cX1_yearOrder 20 = .ok (.i2l, 1) := by decide +kernel
theorem dX1_yearOrder_21 : decode cX1_yearOrder 21 = .ok (.aload_n 0, 1) := by decide +kernel
theorem dX1_yearOrder_22 : decode cX1_yearOrder 22 = .ok (.getfield 13, 3) := by decide +kernel
theorem dX1_yearOrder_25 : decode cX1_yearOrder 25 = .ok (.iload_n 2, 1) := by decide +kernel
theorem dX1_yearOrder_26 : decode cX1_yearOrder 26 = .ok (.iaload, 1) := by decide +kernel
theorem dX1_yearOrder_27 : decode cX1_yearOrder 27 = .ok (.i2l, 1) := by decide +kernel
theorem dX1_yearOrder_28 : decode cX1_yearOrder 28 = .ok (.iload_n 3, 1) := by decide +kernel
theorem dX1_yearOrder_29 : decode cX1_yearOrder 29 = .ok (.invokestatic 168, 3) := by decide +kernel
theorem dX1_yearOrder_32 : decode cX1_yearOrder 32 = .ok (.ireturn, 1) := by decide +kernel
theorem dX1_isYear_0 : decode cX1_isYear 0 = .ok (.iload_n 1, 1) := by decide +kernel
theorem dX1_isYear_1 : decode cX1_isYear 1 = .ok (.invokestatic 40, 3) := by decide +kernel
theorem dX1_isYear_4 : decode cX1_isYear 4 = .ok (.iload_n 3, 1) := by decide +kernel
theorem dX1_isYear_5 : decode cX1_isYear 5 = .ok (.invokestatic 40, 3) := by decide +kernel
theorem dX1_isYear_8 : decode cX1_isYear 8 = .ok (.iload_n 2, 1) := by decide +kernel
theorem dX1_isYear_9 : decode cX1_isYear 9 = .ok (.iconst 0, 1) := by decide +kernel
theorem dX1_isYear_10 : decode cX1_isYear 10 = .ok (.iconst 4, 1) := by decide +kernel
theorem dX1_isYear_11 : decode cX1_isYear 11 = .ok (.invokestatic 71, 3) := by decide +kernel
theorem dX1_isYear_14 : decode cX1_isYear 14 = .ok (.iload_n 2, 1) := by decide +kernel
theorem dX1_isYear_15 : decode cX1_isYear 15 = .ok (.iconst 1, 1) := by decide +kernel
theorem dX1_isYear_16 : decode cX1_isYear 16 = .ok (.if_icmp .ne 22, 3) := by decide +kernel
theorem dX1_isYear_19 : decode cX1_isYear 19 = .ok (.aload_n 0, 1) := by decide +kernel
theorem dX1_isYear_20 : decode cX1_isYear 20 = .ok (.getfield 13, 3) := by decide +kernel
theorem dX1_isYear_23 : decode cX1_isYear 23 = .ok (.iload_n 1, 1) := by decide +kernel
theorem dX1_isYear_24 : decode cX1_isYear 24 = .ok (.iaload, 1) := by decide +kernel
theorem dX1_isYear_25 : decode cX1_isYear 25 = .ok (.aload_n 0, 1) := by decide +kernel
theorem dX1_isYear_26 : decode cX1_isYear 26 = .ok (.getfield 13, 3) := by decide +kernel
theorem dX1_isYear_29 : decode cX1_isYear 29 = .ok (.iload_n 3, 1) := by decide +kernel
theorem dX1_isYear_30 : decode cX1_isYear 30 = .ok (.iaload, 1) := by decide +kernel
theorem dX1_isYear_31 : decode cX1_isYear 31 = .ok (.if_icmp .ne 7, 3) := by decide +kernel
theorem dX1_isYear_34 : decode cX1_isYear 34 = .ok (.iconst 1, 1) := by decide +kernel
theorem dX1_isYear_35 : decode cX1_isYear 35 = .ok (.goto 4, 3) := by decide +kernel
theorem dX1_isYear_38 : decode cX1_isYear 38 = .ok (.iconst 0, 1) := by decide +kernel
theorem dX1_isYear_39 : decode cX1_isYear 39 = .ok (.ireturn, 1) := by decide +kernel
theorem dX1_yearTo_0 : decode cX1_yearTo 0 = .ok (.iload_n 1, 1) := by decide +kernel
theorem dX1_yearTo_1 : decode cX1_yearTo 1 = .ok (.invokestatic 40, 3) := by decide +kernel
theorem dX1_yearTo_4 : decode cX1_yearTo 4 = .ok (.iload_n 2, 1) := by decide +kernel
theorem dX1_yearTo_5 : decode cX1_yearTo 5 = .ok (.invokestatic 40, 3) := by decide +kernel
theorem dX1_yearTo_8 : decode cX1_yearTo 8 = .ok (.iload_n 3, 1) := by decide +kernel
theorem dX1_yearTo_9 : decode cX1_yearTo 9 = .ok (.iconst 1, 1) := by decide +kernel
theorem dX1_yearTo_10 : decode cX1_yearTo 10 = .ok (.iconst 4, 1) := by decide +kernel
theorem dX1_yearTo_11 : decode cX1_yearTo 11 = .ok (.invokestatic 71, 3) := by decide +kernel
theorem dX1_yearTo_14 : decode cX1_yearTo 14 = .ok (.aload_n 0, 1) := by decide +kernel
theorem dX1_yearTo_15 : decode cX1_yearTo 15 = .ok (.getfield 13, 3) := by decide +kernel
theorem dX1_yearTo_18 : decode cX1_yearTo 18 = .ok (.iload_n 2, 1) := by decide +kernel
theorem dX1_yearTo_19 : decode cX1_yearTo 19 = .ok (.iaload, 1) := by decide +kernel
theorem dX1_yearTo_20 : decode cX1_yearTo 20 = .ok (.i2l, 1) := by decide +kernel
theorem dX1_yearTo_21 : decode cX1_yearTo 21 = .ok (.aload_n 0, 1) := by decide +kernel
theorem dX1_yearTo_22 : decode cX1_yearTo 22 = .ok (.getfield 13, 3) := by decide +kernel
theorem dX1_yearTo_25 : decode cX1_yearTo 25 = .ok (.iload_n 1, 1) := by decide +kernel
theorem dX1_yearTo_26 : decode cX1_yearTo 26 = .ok (.iaload, 1) := by decide +kernel
theorem dX1_yearTo_27 : decode cX1_yearTo 27 = .ok (.i2l, 1) := by decide +kernel
theorem dX1_yearTo_28 : decode cX1_yearTo 28 = .ok (.lsub, 1) := by decide +kernel
theorem dX1_yearTo_29 : decode cX1_yearTo 29 = .ok (.lstore 5, 2) := by decide +kernel
theorem dX1_yearTo_31 : decode cX1_yearTo 31 = .ok (.aload_n 0, 1) := by decide +kernel
theorem dX1_yearTo_32 : decode cX1_yearTo 32 = .ok (.ldc2_w 102, 3) := by decide +kernel
theorem dX1_yearTo_35 : decode cX1_yearTo 35 = .ok (.lload 5, 2) := by decide +kernel
theorem dX1_yearTo_37 : decode cX1_yearTo 37 = .ok (.lmul, 1) := by decide +kernel
theorem dX1_yearTo_38 : decode cX1_yearTo 38 = .ok (.iload_n 3, 1) := by decide +kernel
theorem dX1_yearTo_39 : decode cX1_yearTo 39 = .ok (.invokestatic 179, 3) := by decide +kernel
theorem dX1_yearTo_42 : decode cX1_yearTo 42 = .ok (.invokevirtual 164, 3) := by decide +kernel
theorem dX1_yearTo_45 : decode cX1_yearTo 45 = .ok (.areturn, 1) := by decide +kernel
theorem dX1_ofFeast_0 : decode cX1_ofFeast 0 = .ok (.iload_n 1, 1) := by decide +kernel
theorem dX1_ofFeast_1 : decode cX1_ofFeast 1 = .ok (.invokestatic 40, 3) := by decide +kernel
theorem dX1_ofFeast_4 : decode cX1_ofFeast 4 = .ok (.iload_n 2, 1) := by decide +kernel
theorem dX1_ofFeast_5 : decode cX1_ofFeast 5 = .ok (.iconst 0, 1) := by decide +kernel
theorem dX1_ofFeast_6 : decode cX1_ofFeast 6 = .ok (.iconst 4, 1) := by decide +kernel
theorem dX1_ofFeast_7 : decode cX1_ofFeast 7 = .ok (.invokestatic 71, 3) := by decide +kernel
theorem dX1_ofFeast_10 : decode cX1_ofFeast 10 = .ok (.iload_n 2, 1) := by decide +kernel
theorem dX1_ofFeast_11 : decode cX1_ofFeast 11 = .ok (.tableswitch 58 1 4 #[29, 58, 36, 47], 29) := by decide +kernel
theorem dX1_ofFeast_40 : decode cX1_ofFeast 40 = .ok (.aload_n 0, 1) := by decide +kernel
theorem dX1_ofFeast_41 : decode cX1_ofFeast 41 = .ok (.getfield 20, 3) := by decide +kernel
theorem dX1_ofFeast_44 : decode cX1_ofFeast 44 = .ok (.iload_n 1, 1) := by decide +kernel
theorem dX1_ofFeast_45 : decode cX1_ofFeast 45 = .ok (.iaload, 1) := by decide +kernel
theorem dX1_ofFeast_46 : decode cX1_ofFeast 46 = .ok (.ireturn, 1) := by decide +kernel
theorem dX1_ofFeast_47 : decode cX1_ofFeast 47 = .ok (.aload_n 0, 1) := by decide +kernel
theorem dX1_ofFeast_48 : decode cX1_ofFeast 48 = .ok (.getfield 17, 3) := by decide +kernel
theorem dX1_ofFeast_51 : decode cX1_ofFeast 51 = .ok (.iload_n 1, 1) := by decide +kernel
theorem dX1_ofFeast_52 : decode cX1_ofFeast 52 = .ok (.iaload, 1) := by decide +kernel
theorem dX1_ofFeast_53 : decode cX1_ofFeast 53 = .ok (.iconst 0, 1) := by decide +kernel
theorem dX1_ofFeast_54 : decode cX1_ofFeast 54 = .ok (.invokestatic 115, 3) := by decide +kernel
theorem dX1_ofFeast_57 : decode cX1_ofFeast 57 = .ok (.ireturn, 1) := by decide +kernel
theorem dX1_ofFeast_58 : decode cX1_ofFeast 58 = .ok (.aload_n 0, 1) := by decide +kernel
theorem dX1_ofFeast_59 : decode cX1_ofFeast 59 = .ok (.getfield 17, 3) := by decide +kernel
theorem dX1_ofFeast_62 : decode cX1_ofFeast 62 = .ok (.iload_n 1, 1) := by decide +kernel
theorem dX1_ofFeast_63 : decode cX1_ofFeast 63 = .ok (.iaload, 1) := by decide +kernel
theorem dX1_ofFeast_64 : decode cX1_ofFeast 64 = .ok (.iconst 1, 1) := by decide +kernel
theorem dX1_ofFeast_65 : decode cX1_ofFeast 65 = .ok (.invokestatic 115, 3) := by decide +kernel
theorem dX1_ofFeast_68 : decode cX1_ofFeast 68 = .ok (.ireturn, 1) := by decide +kernel
theorem dX1_ofFeast_69 : decode cX1_ofFeast 69 = .ok (.aload_n 0, 1) := by decide +kernel
theorem dX1_ofFeast_70 : decode cX1_ofFeast 70 = .ok (.getfield 17, 3) := by decide +kernel
theorem dX1_ofFeast_73 : decode cX1_ofFeast 73 = .ok (.iload_n 1, 1) := by decide +kernel
theorem dX1_ofFeast_74 : decode cX1_ofFeast 74 = .ok (.iaload, 1) := by decide +kernel
theorem dX1_ofFeast_75 : decode cX1_ofFeast 75 = .ok (.ireturn, 1) := by decide +kernel
theorem dX1_isInYear_0 : decode cX1_isInYear 0 = .ok (.iload_n 1, 1) := by decide +kernel
theorem dX1_isInYear_1 : decode cX1_isInYear 1 = .ok (.invokestatic 40, 3) := by decide +kernel
theorem dX1_isInYear_4 : decode cX1_isInYear 4 = .ok (.iload_n 2, 1) := by decide +kernel
theorem dX1_isInYear_5 : decode cX1_isInYear 5 = .ok (.invokestatic 44, 3) := by decide +kernel
theorem dX1_isInYear_8 : decode cX1_isInYear 8 = .ok (.aload_n 0, 1) := by decide +kernel
theorem dX1_isInYear_9 : decode cX1_isInYear 9 = .ok (.iload_n 1, 1) := by decide +kernel
theorem dX1_isInYear_10 : decode cX1_isInYear 10 = .ok (.iload_n 2, 1) := by decide +kernel
theorem dX1_isInYear_11 : decode cX1_isInYear 11 = .ok (.invokevirtual 176, 3) := by decide +kernel
theorem dX1_isInYear_14 : decode cX1_isInYear 14 = .ok (.ireturn, 1) := by decide +kernel
theorem dX1_feastOrder_0 : decode cX1_feastOrder 0 = .ok (.iload_n 1, 1) := by decide +kernel
theorem dX1_feastOrder_1 : decode cX1_feastOrder 1 = .ok (.invokestatic 40, 3) := by decide +kernel
theorem dX1_feastOrder_4 : decode cX1_feastOrder 4 = .ok (.iload_n 2, 1) := by decide +kernel
theorem dX1_feastOrder_5 : decode cX1_feastOrder 5 = .ok (.invokestatic 40, 3) := by decide +kernel
theorem dX1_feastOrder_8 : decode cX1_feastOrder 8 = .ok (.iload_n 3, 1) := by decide +kernel
theorem dX1_feastOrder_9 : decode cX1_feastOrder 9 = .ok (.iconst 0, 1) := by decide +kernel
theorem dX1_feastOrder_10 : decode cX1_feastOrder 10 = .ok (.iconst 2, 1) := by decide +kernel
theorem dX1_feastOrder_11 : decode cX1_feastOrder 11 = .ok (.invokestatic 71, 3) := by decide +kernel
theorem dX1_feastOrder_14 : decode cX1_feastOrder 14 = .ok (.aload_n 0, 1) := by decide +kernel
theorem dX1_feastOrder_15 : decode cX1_feastOrder 15 = .ok (.iload_n 1, 1) := by decide +kernel
theorem dX1_feastOrder_16 : decode cX1_feastOrder 16 = .ok (.invokevirtual 125, 3) := by decide +kernel
theorem dX1_feastOrder_19 : decode cX1_feastOrder 19 = .ok (.i2l, 1) := by decide +kernel
theorem dX1_feastOrder_20 : decode cX1_feastOrder 20 = .ok (.aload_n 0, 1) := by decide +kernel
theorem dX1_feastOrder_21 : decode cX1_feastOrder 21 = .ok (.iload_n 2, 1) := by decide +kernel
theorem dX1_feastOrder_22 : decode cX1_feastOrder 22 = .ok (.invokevirtual 125, 3) := by decide +kernel
theorem dX1_feastOrder_25 : decode cX1_feastOrder 25 = .ok (.i2l, 1) := by decide +kernel
theorem dX1_feastOrder_26 : decode cX1_feastOrder 26 = .ok (.iload_n 3, 1) := by decide +kernel
theorem dX1_feastOrder_27 : decode cX1_feastOrder 27 = .ok (.invokestatic 168, 3) := by decide +kernel
theorem dX1_feastOrder_30 : decode cX1_feastOrder 30 = .ok (.ireturn, 1) := by decide +kernel
theorem dX1_isFeast_0 : decode cX1_isFeast 0 = .ok (.iload_n 1, 1) := by decide +kernel
theorem dX1_isFeast_1 : decode cX1_isFeast 1 = .ok (.invokestatic 40, 3) := by decide +kernel
theorem dX1_isFeast_4 : decode cX1_isFeast 4 = .ok (.iload_n 3, 1) := by decide +kernel
theorem dX1_isFeast_5 : decode cX1_isFeast 5 = .ok (.invokestatic 40, 3) := by decide +kernel
theorem dX1_isFeast_8 : decode cX1_isFeast 8 = .ok (.iload_n 2, 1) := by decide +kernel
theorem dX1_isFeast_9 : decode cX1_isFeast 9 = .ok (.iconst 0, 1) := by decide +kernel
theorem dX1_isFeast_10 : decode cX1_isFeast 10 = .ok (.iconst 4, 1) := by decide +kernel
theorem dX1_isFeast_11 : decode cX1_isFeast 11 = .ok (.invokestatic 71, 3) := by decide +kernel
theorem dX1_isFeast_14 : decode cX1_isFeast 14 = .ok (.iload_n 2, 1) := by decide +kernel
theorem dX1_isFeast_15 : decode cX1_isFeast 15 = .ok (.iconst 2, 1) := by decide +kernel
theorem dX1_isFeast_16 : decode cX1_isFeast 16 = .ok (.if_icmp .ne 20, 3) := by decide +kernel
theorem dX1_isFeast_19 : decode cX1_isFeast 19 = .ok (.aload_n 0, 1) := by decide +kernel
theorem dX1_isFeast_20 : decode cX1_isFeast 20 = .ok (.iload_n 1, 1) := by decide +kernel
theorem dX1_isFeast_21 : decode cX1_isFeast 21 = .ok (.invokevirtual 125, 3) := by decide +kernel
theorem dX1_isFeast_24 : decode cX1_isFeast 24 = .ok (.aload_n 0, 1) := by decide +kernel
theorem dX1_isFeast_25 : decode cX1_isFeast 25 = .ok (.iload_n 3, 1) := by decide +kernel
theorem dX1_isFeast_26 : decode cX1_isFeast 26 = .ok (.invokevirtual 125, 3) := by decide +kernel
theorem dX1_isFeast_29 : decode cX1_isFeast 29 = .ok (.if_icmp .ne 7, 3) := by decide +kernel
theorem dX1_isFeast_32 : decode cX1_isFeast 32 = .ok (.iconst 1, 1) := by decide +kernel
theorem dX1_isFeast_33 : decode cX1_isFeast 33 = .ok (.goto 4, 3) := by decide +kernel
theorem dX1_isFeast_36 : decode cX1_isFeast 36 = .ok (.iconst 0, 1) := by decide +kernel
theorem dX1_isFeast_37 : decode cX1_isFeast 37 = .ok (.ireturn, 1) := by decide +kernel
theorem dX1_ofDay_0 : decode cX1_ofDay 0 = .ok (.iload_n 1, 1) := by decide +kernel
theorem dX1_ofDay_1 : decode cX1_ofDay 1 = .ok (.invokestatic 40, 3) := by decide +kernel
theorem dX1_ofDay_4 : decode cX1_ofDay 4 = .ok (.iload_n 2, 1) := by decide +kernel
theorem dX1_ofDay_5 : decode cX1_ofDay 5 = .ok (.iconst 0, 1) := by decide +kernel
theorem dX1_ofDay_6 : decode cX1_ofDay 6 = .ok (.iconst 5, 1) := by decide +kernel
theorem dX1_ofDay_7 : decode cX1_ofDay 7 = .ok (.invokestatic 71, 3) := by decide +kernel
theorem dX1_ofDay_10 : decode cX1_ofDay 10 = .ok (.aload_n 0, 1) := by decide +kernel
theorem dX1_ofDay_11 : decode cX1_ofDay 11 = .ok (.getfield 23, 3) := by decide +kernel
theorem dX1_ofDay_14 : decode cX1_ofDay 14 = .ok (.iload_n 1, 1) := by decide +kernel
theorem dX1_ofDay_15 : decode cX1_ofDay 15 = .ok (.laload, 1) := by decide +kernel
theorem dX1_ofDay_16 : decode cX1_ofDay 16 = .ok (.lstore_n 3, 1) := by decide +kernel
theorem dX1_ofDay_17 : decode cX1_ofDay 17 = .ok (.iload_n 2, 1) := by decide +kernel
theorem dX1_ofDay_18 : decode cX1_ofDay 18 = .ok (.tableswitch 68 0 4 #[34, 39, 44, 51, 62], 34) := by decide +kernel
theorem dX1_ofDay_52 : decode cX1_ofDay 52 = .ok (.lload_n 3, 1) := by decide +kernel
theorem dX1_ofDay_53 : decode cX1_ofDay 53 = .ok (.invokestatic 81, 3) := by decide +kernel
theorem dX1_ofDay_56 : decode cX1_ofDay 56 = .ok (.ireturn, 1) := by decide +kernel
theorem dX1_ofDay_57 : decode cX1_ofDay 57 = .ok (.lload_n 3, 1) := by decide +kernel
theorem dX1_ofDay_58 : decode cX1_ofDay 58 = .ok (.invokestatic 77, 3) := by decide +kernel
theorem dX1_ofDay_61 : decode cX1_ofDay 61 = .ok (.ireturn, 1) := by decide +kernel
theorem dX1_ofDay_62 : decode cX1_ofDay 62 = .ok (.aload_n 0, 1) := by decide +kernel
theorem dX1_ofDay_63 : decode cX1_ofDay 63 = .ok (.getfield 26, 3) := by decide +kernel
theorem dX1_ofDay_66 : decode cX1_ofDay 66 = .ok (.iload_n 1, 1) := by decide +kernel
theorem dX1_ofDay_67 : decode cX1_ofDay 67 = .ok (.iaload, 1) := by decide +kernel
theorem dX1_ofDay_68 : decode cX1_ofDay 68 = .ok (.ireturn, 1) := by decide +kernel
theorem dX1_ofDay_69 : decode cX1_ofDay 69 = .ok (.lload_n 3, 1) := by decide +kernel
theorem dX1_ofDay_70 : decode cX1_ofDay 70 = .ok (.aload_n 0, 1) := by decide +kernel
theorem dX1_ofDay_71 : decode cX1_ofDay 71 = .ok (.getfield 26, 3) := by decide +kernel
theorem dX1_ofDay_74 : decode cX1_ofDay 74 = .ok (.iload_n 1, 1) := by decide +kernel
theorem dX1_ofDay_75 : decode cX1_ofDay 75 = .ok (.iaload, 1) := by decide +kernel
theorem dX1_ofDay_76 : decode cX1_ofDay 76 = .ok (.invokestatic 183, 3) := by decide +kernel
theorem dX1_ofDay_79 : decode cX1_ofDay 79 = .ok (.ireturn, 1) := by decide +kernel
theorem dX1_ofDay_80 : decode cX1_ofDay 80 = .ok (.aload_n 0, 1) := by decide +kernel
theorem dX1_ofDay_81 : decode cX1_ofDay 81 = .ok (.iload_n 1, 1) := by decide +kernel
theorem dX1_ofDay_82 : decode cX1_ofDay 82 = .ok (.invokevirtual 136, 3) := by decide +kernel
theorem dX1_ofDay_85 : decode cX1_ofDay 85 = .ok (.ireturn, 1) := by decide +kernel
theorem dX1_ofDay_86 : decode cX1_ofDay 86 = .ok (.aload_n 0, 1) := by decide +kernel
theorem dX1_ofDay_87 : decode cX1_ofDay 87 = .ok (.iload_n 1, 1) := by decide +kernel
theorem dX1_ofDay_88 : decode cX1_ofDay 88 = .ok (.invokevirtual 187, 3) := by decide +kernel
theorem dX1_ofDay_91 : decode cX1_ofDay 91 = .ok (.invokestatic 92, 3) := by decide +kernel
theorem dX1_ofDay_94 : decode cX1_ofDay 94 = .ok (.ireturn, 1) := by decide +kernel
theorem dX1_number_0 : decode cX1_number 0 = .ok (.iload_n 1, 1) := by decide +kernel
theorem dX1_number_1 : decode cX1_number 1 = .ok (.invokestatic 40, 3) := by decide +kernel
theorem dX1_number_4 : decode cX1_number 4 = .ok (.aload_n 0, 1) := by decide +kernel
theorem dX1_number_5 : decode cX1_number 5 = .ok (.aload_n 0, 1) := by decide +kernel
theorem dX1_number_6 : decode cX1_number 6 = .ok (.iload_n 1, 1) := by decide +kernel
theorem dX1_number_7 : decode cX1_number 7 = .ok (.invokevirtual 191, 3) := by decide +kernel
theorem dX1_number_10 : decode cX1_number 10 = .ok (.invokevirtual 164, 3) := by decide +kernel
theorem dX1_number_13 : decode cX1_number 13 = .ok (.areturn, 1) := by decide +kernel
theorem dX1_dayOrder_0 : decode cX1_dayOrder 0 = .ok (.iload_n 1, 1) := by decide +kernel
theorem dX1_dayOrder_1 : decode cX1_dayOrder 1 = .ok (.invokestatic 40, 3) := by decide +kernel
theorem dX1_dayOrder_4 : decode cX1_dayOrder 4 = .ok (.iload_n 2, 1) := by decide +kernel
theorem dX1_dayOrder_5 : decode cX1_dayOrder 5 = .ok (.invokestatic 40, 3) := by decide +kernel
theorem dX1_dayOrder_8 : decode cX1_dayOrder 8 = .ok (.iload_n 3, 1) := by decide +kernel
theorem dX1_dayOrder_9 : decode cX1_dayOrder 9 = .ok (.iconst 0, 1) := by decide +kernel
theorem dX1_dayOrder_10 : decode cX1_dayOrder 10 = .ok (.iconst 2, 1) := by decide +kernel
theorem dX1_dayOrder_11 : decode cX1_dayOrder 11 = .ok (.invokestatic 71, 3) := by decide +kernel
theorem dX1_dayOrder_14 : decode cX1_dayOrder 14 = .ok (.aload_n 0, 1) := by decide +kernel
theorem dX1_dayOrder_15 : decode cX1_dayOrder 15 = .ok (.iload_n 1, 1) := by decide +kernel
theorem dX1_dayOrder_16 : decode cX1_dayOrder 16 = .ok (.invokevirtual 191, 3) := by decide +kernel
theorem dX1_dayOrder_19 : decode cX1_dayOrder 19 = .ok (.aload_n 0, 1) := by decide +kernel
theorem dX1_dayOrder_20 : decode cX1_dayOrder 20 = .ok (.iload_n 2, 1) := by decide +kernel
theorem dX1_dayOrder_21 : decode cX1_dayOrder 21 = .ok (.invokevirtual 191, 3) := by decide +kernel
theorem dX1_dayOrder_24 : decode cX1_dayOrder 24 = .ok (.iload_n 3, 1) := by decide +kernel
theorem dX1_dayOrder_25 : decode cX1_dayOrder 25 = .ok (.invokestatic 168, 3) := by decide +kernel
theorem dX1_dayOrder_28 : decode cX1_dayOrder 28 = .ok (.ireturn, 1) := by decide +kernel
theorem dX1_knows_0 : decode cX1_knows 0 = .ok (.iload_n 1, 1) := by decide +kernel
theorem dX1_knows_1 : decode cX1_knows 1 = .ok (.iconst 0, 1) := by decide +kernel
theorem dX1_knows_2 : decode cX1_knows 2 = .ok (.iconst 2, 1) := by decide +kernel
theorem dX1_knows_3 : decode cX1_knows 3 = .ok (.invokestatic 71, 3) := by decide +kernel
theorem dX1_knows_6 : decode cX1_knows 6 = .ok (.iload_n 2, 1) := by decide +kernel
theorem dX1_knows_7 : decode cX1_knows 7 = .ok (.iconst 0, 1) := by decide +kernel
theorem dX1_knows_8 : decode cX1_knows 8 = .ok (.bipush 12, 2) := by decide +kernel
theorem dX1_knows_10 : decode cX1_knows 10 = .ok (.invokestatic 71, 3) := by decide +kernel
theorem dX1_knows_13 : decode cX1_knows 13 = .ok (.iload_n 1, 1) := by decide +kernel
theorem dX1_knows_14 : decode cX1_knows 14 = .ok (.lookupswitch 70 #[(0, 26), (1, 48)], 26) := by decide +kernel
theorem dX1_knows_40 : decode cX1_knows 40 = .ok (.iload_n 2, 1) := by decide +kernel
theorem dX1_knows_41 : decode cX1_knows 41 = .ok (.iconst 1, 1) := by decide +kernel
theorem dX1_knows_42 : decode cX1_knows 42 = .ok (.if_icmp .lt 8, 3) := by decide +kernel
theorem dX1_knows_45 : decode cX1_knows 45 = .ok (.iload_n 2, 1) := by decide +kernel
theorem dX1_knows_46 : decode cX1_knows 46 = .ok (.iconst 5, 1) := by decide +kernel
theorem dX1_knows_47 : decode cX1_knows 47 = .ok (.if_icmp .le 9, 3) := by decide +kernel
theorem dX1_knows_50 : decode cX1_knows 50 = .ok (.iload_n 2, 1) := by decide +kernel
theorem dX1_knows_51 : decode cX1_knows 51 = .ok (.bipush 7, 2) := by decide +kernel
theorem dX1_knows_53 : decode cX1_knows 53 = .ok (.if_icmp .lt 7, 3) := by decide +kernel
theorem dX1_knows_56 : decode cX1_knows 56 = .ok (.iconst 1, 1) := by decide +kernel
theorem dX1_knows_57 : decode cX1_knows 57 = .ok (.goto 4, 3) := by decide +kernel
theorem dX1_knows_60 : decode cX1_knows 60 = .ok (.iconst 0, 1) := by decide +kernel
theorem dX1_knows_61 : decode cX1_knows 61 = .ok (.ireturn, 1) := by decide +kernel
theorem dX1_knows_62 : decode cX1_knows 62 = .ok (.iload_n 2, 1) := by decide +kernel
theorem dX1_knows_63 : decode cX1_knows 63 = .ok (.iconst 3, 1) := by decide +kernel
theorem dX1_knows_64 : decode cX1_knows 64 = .ok (.if_icmp .lt 8, 3) := by decide +kernel
theorem dX1_knows_67 : decode cX1_knows 67 = .ok (.iload_n 2, 1) := by decide +kernel
theorem dX1_knows_68 : decode cX1_knows 68 = .ok (.iconst 5, 1) := by decide +kernel
theorem dX1_knows_69 : decode cX1_knows 69 = .ok (.if_icmp .le 9, 3) := by decide +kernel
theorem dX1_knows_72 : decode cX1_knows 72 = .ok (.iload_n 2, 1) := by decide +kernel
theorem dX1_knows_73 : decode cX1_knows 73 = .ok (.bipush 8, 2) := by decide +kernel
theorem dX1_knows_75 : decode cX1_knows 75 = .ok (.if_icmp .lt 7, 3) := by decide +kernel
theorem dX1_knows_78 : decode cX1_knows 78 = .ok (.iconst 1, 1) := by decide +kernel
theorem dX1_knows_79 : decode cX1_knows 79 = .ok (.goto 4, 3) := by decide +kernel
theorem dX1_knows_82 : decode cX1_knows 82 = .ok (.iconst 0, 1) := by decide +kernel
theorem dX1_knows_83 : decode cX1_knows 83 = .ok (.ireturn, 1) := by decide +kernel
theorem dX1_knows_84 : decode cX1_knows 84 = .ok (.iload_n 2, 1) := by decide +kernel
theorem dX1_knows_85 : decode cX1_knows 85 = .ok (.iconst 1, 1) := by decide +kernel
theorem dX1_knows_86 : decode cX1_knows 86 = .ok (.if_icmp .gt 7, 3) := by decide +kernel
theorem dX1_knows_89 : decode cX1_knows 89 = .ok (.iconst 1, 1) := by decide +kernel
theorem dX1_knows_90 : decode cX1_knows 90 = .ok (.goto 4, 3) := by decide +kernel
theorem dX1_knows_93 : decode cX1_knows 93 = .ok (.iconst 0, 1) := by decide +kernel
theorem dX1_knows_94 : decode cX1_knows 94 = .ok (.ireturn, 1) := by decide +kernel
theorem dX1_edge_0 : decode cX1_edge 0 = .ok (.iload_n 1, 1) := by decide +kernel
theorem dX1_edge_1 : decode cX1_edge 1 = .ok (.ifCond .eq 8, 3) := by decide +kernel
theorem dX1_edge_4 : decode cX1_edge 4 = .ok (.ldc 195, 2) := by decide +kernel
theorem dX1_edge_6 : decode cX1_edge 6 = .ok (.goto 5, 3) := by decide +kernel
theorem dX1_edge_9 : decode cX1_edge 9 = .ok (.ldc 196, 2) := by decide +kernel
theorem dX1_edge_11 : decode cX1_edge 11 = .ok (.ireturn, 1) := by decide +kernel
theorem dX1_knock_0 : decode cX1_knock 0 = .ok (.aload_n 0, 1) := by decide +kernel
theorem dX1_knock_1 : decode cX1_knock 1 = .ok (.dup, 1) := by decide +kernel
theorem dX1_knock_2 : decode cX1_knock 2 = .ok (.getfield 36, 3) := by decide +kernel
theorem dX1_knock_5 : decode cX1_knock 5 = .ok (.iconst 1, 1) := by decide +kernel
theorem dX1_knock_6 : decode cX1_knock 6 = .ok (.iadd, 1) := by decide +kernel
theorem dX1_knock_7 : decode cX1_knock 7 = .ok (.putfield 36, 3) := by decide +kernel
theorem dX1_knock_10 : decode cX1_knock 10 = .ok (.aload_n 0, 1) := by decide +kernel
theorem dX1_knock_11 : decode cX1_knock 11 = .ok (.getfield 36, 3) := by decide +kernel
theorem dX1_knock_14 : decode cX1_knock 14 = .ok (.ireturn, 1) := by decide +kernel
theorem dX1_house_0 : decode cX1_house 0 = .ok (.iload_n 1, 1) := by decide +kernel
theorem dX1_house_1 : decode cX1_house 1 = .ok (.iconst 0, 1) := by decide +kernel
theorem dX1_house_2 : decode cX1_house 2 = .ok (.iconst 4, 1) := by decide +kernel
theorem dX1_house_3 : decode cX1_house 3 = .ok (.invokestatic 71, 3) := by decide +kernel
theorem dX1_house_6 : decode cX1_house 6 = .ok (.iload_n 1, 1) := by decide +kernel
theorem dX1_house_7 : decode cX1_house 7 = .ok (.iconst 4, 1) := by decide +kernel
theorem dX1_house_8 : decode cX1_house 8 = .ok (.if_icmp .ne 8, 3) := by decide +kernel
theorem dX1_house_11 : decode cX1_house 11 = .ok (.aload_n 0, 1) := by decide +kernel
theorem dX1_house_12 : decode cX1_house 12 = .ok (.getfield 36, 3) := by decide +kernel
theorem dX1_house_15 : decode cX1_house 15 = .ok (.ireturn, 1) := by decide +kernel
theorem dX1_house_16 : decode cX1_house 16 = .ok (.iconst 0, 1) := by decide +kernel
theorem dX1_house_17 : decode cX1_house 17 = .ok (.istore_n 2, 1) := by decide +kernel
theorem dX1_house_18 : decode cX1_house 18 = .ok (.iconst 0, 1) := by decide +kernel
theorem dX1_house_19 : decode cX1_house 19 = .ok (.istore_n 3, 1) := by decide +kernel
theorem dX1_house_20 : decode cX1_house 20 = .ok (.iload_n 3, 1) := by decide +kernel
theorem dX1_house_21 : decode cX1_house 21 = .ok (.iconst 4, 1) := by decide +kernel
theorem dX1_house_22 : decode cX1_house 22 = .ok (.if_icmp .ge 21, 3) := by decide +kernel
theorem dX1_house_25 : decode cX1_house 25 = .ok (.iload_n 2, 1) := by decide +kernel
theorem dX1_house_26 : decode cX1_house 26 = .ok (.aload_n 0, 1) := by decide +kernel
theorem dX1_house_27 : decode cX1_house 27 = .ok (.iload_n 3, 1) := by decide +kernel
theorem dX1_house_28 : decode cX1_house 28 = .ok (.iload_n 1, 1) := by decide +kernel
theorem dX1_house_29 : decode cX1_house 29 = .ok (.invokevirtual 197, 3) := by decide +kernel
theorem dX1_house_32 : decode cX1_house 32 = .ok (.invokestatic 92, 3) := by decide +kernel
theorem dX1_house_35 : decode cX1_house 35 = .ok (.iadd, 1) := by decide +kernel
theorem dX1_house_36 : decode cX1_house 36 = .ok (.istore_n 2, 1) := by decide +kernel
theorem dX1_house_37 : decode cX1_house 37 = .ok (.iinc 3 1, 3) := by decide +kernel
theorem dX1_house_40 : decode cX1_house 40 = .ok (.goto (-20), 3) := by decide +kernel
theorem dX1_house_43 : decode cX1_house 43 = .ok (.iload_n 2, 1) := by decide +kernel
theorem dX1_house_44 : decode cX1_house 44 = .ok (.ireturn, 1) := by decide +kernel
theorem dX1_isSound_0 : decode cX1_isSound 0 = .ok (.iconst 0, 1) := by decide +kernel
theorem dX1_isSound_1 : decode cX1_isSound 1 = .ok (.istore_n 1, 1) := by decide +kernel
theorem dX1_isSound_2 : decode cX1_isSound 2 = .ok (.iload_n 1, 1) := by decide +kernel
theorem dX1_isSound_3 : decode cX1_isSound 3 = .ok (.iconst 4, 1) := by decide +kernel
theorem dX1_isSound_4 : decode cX1_isSound 4 = .ok (.if_icmp .ge 73, 3) := by decide +kernel
theorem dX1_isSound_7 : decode cX1_isSound 7 = .ok (.aload_n 0, 1) := by decide +kernel
theorem dX1_isSound_8 : decode cX1_isSound 8 = .ok (.getfield 9, 3) := by decide +kernel
theorem dX1_isSound_11 : decode cX1_isSound 11 = .ok (.iload_n 1, 1) := by decide +kernel
theorem dX1_isSound_12 : decode cX1_isSound 12 = .ok (.laload, 1) := by decide +kernel
theorem dX1_isSound_13 : decode cX1_isSound 13 = .ok (.invokestatic 200, 3) := by decide +kernel
theorem dX1_isSound_16 : decode cX1_isSound 16 = .ok (.ifCond .eq 15, 3) := by decide +kernel
theorem dX1_isSound_19 : decode cX1_isSound 19 = .ok (.aload_n 0, 1) := by decide +kernel
theorem dX1_isSound_20 : decode cX1_isSound 20 = .ok (.getfield 13, 3) := by decide +kernel
theorem dX1_isSound_23 : decode cX1_isSound 23 = .ok (.iload_n 1, 1) := by decide +kernel
theorem dX1_isSound_24 : decode cX1_isSound 24 = .ok (.iaload, 1) := by decide +kernel
theorem dX1_isSound_25 : decode cX1_isSound 25 = .ok (.invokestatic 203, 3) := by decide +kernel
theorem dX1_isSound_28 : decode cX1_isSound 28 = .ok (.ifCond .ne 5, 3) := by decide +kernel
theorem dX1_isSound_31 : decode cX1_isSound 31 = .ok (.iconst 0, 1) := by decide +kernel
theorem dX1_isSound_32 : decode cX1_isSound 32 = .ok (.ireturn, 1) := by decide +kernel
theorem dX1_isSound_33 : decode cX1_isSound 33 = .ok (.iconst 0, 1) := by decide +kernel
theorem dX1_isSound_34 : decode cX1_isSound 34 = .ok (.istore_n 2, 1) := by decide +kernel
theorem dX1_isSound_35 : decode cX1_isSound 35 = .ok (.iload_n 2, 1) := by decide +kernel
theorem dX1_isSound_36 : decode cX1_isSound 36 = .ok (.iconst 4, 1) := by decide +kernel
theorem dX1_isSound_37 : decode cX1_isSound 37 = .ok (.if_icmp .ge 34, 3) := by decide +kernel
theorem dX1_isSound_40 : decode cX1_isSound 40 = .ok (.aload_n 0, 1) := by decide +kernel
theorem dX1_isSound_41 : decode cX1_isSound 41 = .ok (.iload_n 1, 1) := by decide +kernel
theorem dX1_isSound_42 : decode cX1_isSound 42 = .ok (.iload_n 2, 1) := by decide +kernel
theorem dX1_isSound_43 : decode cX1_isSound 43 = .ok (.invokevirtual 206, 3) := by decide +kernel
theorem dX1_isSound_46 : decode cX1_isSound 46 = .ok (.ifCond .eq 17, 3) := by decide +kernel
theorem dX1_isSound_49 : decode cX1_isSound 49 = .ok (.aload_n 0, 1) := by decide +kernel
theorem dX1_isSound_50 : decode cX1_isSound 50 = .ok (.iload_n 1, 1) := by decide +kernel
theorem dX1_isSound_51 : decode cX1_isSound 51 = .ok (.aload_n 0, 1) := by decide +kernel
theorem dX1_isSound_52 : decode cX1_isSound 52 = .ok (.getfield 13, 3) := by decide +kernel
theorem dX1_isSound_55 : decode cX1_isSound 55 = .ok (.iload_n 2, 1) := by decide +kernel
theorem dX1_isSound_56 : decode cX1_isSound 56 = .ok (.iaload, 1) := by decide +kernel
theorem dX1_isSound_57 : decode cX1_isSound 57 = .ok (.invokevirtual 209, 3) := by decide +kernel
theorem dX1_isSound_60 : decode cX1_isSound 60 = .ok (.ifCond .ne 5, 3) := by decide +kernel
theorem dX1_isSound_63 : decode cX1_isSound 63 = .ok (.iconst 0, 1) := by decide +kernel
theorem dX1_isSound_64 : decode cX1_isSound 64 = .ok (.ireturn, 1) := by decide +kernel
theorem dX1_isSound_65 : decode cX1_isSound 65 = .ok (.iinc 2 1, 3) := by decide +kernel
theorem dX1_isSound_68 : decode cX1_isSound 68 = .ok (.goto (-33), 3) := by decide +kernel
theorem dX1_isSound_71 : decode cX1_isSound 71 = .ok (.iinc 1 1, 3) := by decide +kernel
theorem dX1_isSound_74 : decode cX1_isSound 74 = .ok (.goto (-72), 3) := by decide +kernel
theorem dX1_isSound_77 : decode cX1_isSound 77 = .ok (.iconst 1, 1) := by decide +kernel
theorem dX1_isSound_78 : decode cX1_isSound 78 = .ok (.ireturn, 1) := by decide +kernel
theorem dX1_digest_0 : decode cX1_digest 0 = .ok (.aload_n 0, 1) := by decide +kernel
theorem dX1_digest_1 : decode cX1_digest 1 = .ok (.ldc2_w 212, 3) := by decide +kernel
theorem dX1_digest_4 : decode cX1_digest 4 = .ok (.invokevirtual 214, 3) := by decide +kernel
theorem dX1_digest_7 : decode cX1_digest 7 = .ok (.lstore_n 1, 1) := by decide +kernel
theorem dX1_digest_8 : decode cX1_digest 8 = .ok (.aload_n 0, 1) := by decide +kernel
theorem dX1_digest_9 : decode cX1_digest 9 = .ok (.lload_n 1, 1) := by decide +kernel
theorem dX1_digest_10 : decode cX1_digest 10 = .ok (.invokevirtual 218, 3) := by decide +kernel
theorem dX1_digest_13 : decode cX1_digest 13 = .ok (.lstore_n 1, 1) := by decide +kernel
theorem dX1_digest_14 : decode cX1_digest 14 = .ok (.aload_n 0, 1) := by decide +kernel
theorem dX1_digest_15 : decode cX1_digest 15 = .ok (.lload_n 1, 1) := by decide +kernel
theorem dX1_digest_16 : decode cX1_digest 16 = .ok (.invokevirtual 221, 3) := by decide +kernel
theorem dX1_digest_19 : decode cX1_digest 19 = .ok (.lstore_n 1, 1) := by decide +kernel
theorem dX1_digest_20 : decode cX1_digest 20 = .ok (.aload_n 0, 1) := by decide +kernel
theorem dX1_digest_21 : decode cX1_digest 21 = .ok (.lload_n 1, 1) := by decide +kernel
theorem dX1_digest_22 : decode cX1_digest 22 = .ok (.invokevirtual 224, 3) := by decide +kernel
theorem dX1_digest_25 : decode cX1_digest 25 = .ok (.lstore_n 1, 1) := by decide +kernel
theorem dX1_digest_26 : decode cX1_digest 26 = .ok (.aload_n 0, 1) := by decide +kernel
theorem dX1_digest_27 : decode cX1_digest 27 = .ok (.lload_n 1, 1) := by decide +kernel
theorem dX1_digest_28 : decode cX1_digest 28 = .ok (.invokevirtual 227, 3) := by decide +kernel
theorem dX1_digest_31 : decode cX1_digest 31 = .ok (.lstore_n 1, 1) := by decide +kernel
theorem dX1_digest_32 : decode cX1_digest 32 = .ok (.aload_n 0, 1) := by decide +kernel
theorem dX1_digest_33 : decode cX1_digest 33 = .ok (.lload_n 1, 1) := by decide +kernel
theorem dX1_digest_34 : decode cX1_digest 34 = .ok (.invokevirtual 230, 3) := by decide +kernel
theorem dX1_digest_37 : decode cX1_digest 37 = .ok (.lstore_n 1, 1) := by decide +kernel
theorem dX1_digest_38 : decode cX1_digest 38 = .ok (.iconst 0, 1) := by decide +kernel
theorem dX1_digest_39 : decode cX1_digest 39 = .ok (.istore_n 3, 1) := by decide +kernel
theorem dX1_digest_40 : decode cX1_digest 40 = .ok (.iload_n 3, 1) := by decide +kernel
theorem dX1_digest_41 : decode cX1_digest 41 = .ok (.iconst 4, 1) := by decide +kernel
theorem dX1_digest_42 : decode cX1_digest 42 = .ok (.if_icmp .gt 22, 3) := by decide +kernel
theorem dX1_digest_45 : decode cX1_digest 45 = .ok (.lload_n 1, 1) := by decide +kernel
theorem dX1_digest_46 : decode cX1_digest 46 = .ok (.ldc2_w 233, 3) := by decide +kernel
theorem dX1_digest_49 : decode cX1_digest 49 = .ok (.lmul, 1) := by decide +kernel
theorem dX1_digest_50 : decode cX1_digest 50 = .ok (.aload_n 0, 1) := by decide +kernel
theorem dX1_digest_51 : decode cX1_digest 51 = .ok (.iload_n 3, 1) := by decide +kernel
theorem dX1_digest_52 : decode cX1_digest 52 = .ok (.invokevirtual 235, 3) := by decide +kernel
theorem dX1_digest_55 : decode cX1_digest 55 = .ok (.i2l, 1) := by decide +kernel
