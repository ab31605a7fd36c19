def RX0 : String := "Monthyears$Calendar"
def TX0 : u_T := fun k => match k with
  | _ => ("", "", "", false)
def tyX0 : Nat → FieldType := fun k => match k with
  | _ => .int
abbrev wsX00 : List Cond := u_ws RX0 TX0 0
theorem nmX0 : ∀ a, a < 0 → ∀ b, b < 0 → a ≠ b → (TX0 a).2.1 ≠ (TX0 b).2.1 := by decide +kernel
theorem tyX0_ok : ∀ k, k < 0 → parseFieldDescriptor (TX0 k).2.2.1 = some (tyX0 k) := by decide +kernel
abbrev cX0_isLeapNumber : ByteArray := prog_2_method_2_code
def yX0_isLeapNumber : MethodName := ⟨RX0, "isLeapNumber", "(J)Z"⟩
abbrev cX0_yearLength : ByteArray := prog_2_method_3_code
def yX0_yearLength : MethodName := ⟨RX0, "yearLength", "(J)I"⟩
abbrev cX0_sideOf : ByteArray := prog_2_method_4_code
def yX0_sideOf : MethodName := ⟨RX0, "sideOf", "(I)I"⟩
abbrev cX0_rankOf : ByteArray := prog_2_method_5_code
def yX0_rankOf : MethodName := ⟨RX0, "rankOf", "(I)I"⟩
abbrev cX0_yearOfRank : ByteArray := prog_2_method_6_code
def yX0_yearOfRank : MethodName := ⟨RX0, "yearOfRank", "(II)I"⟩
abbrev cX0_yearWithThing : ByteArray := prog_2_method_7_code
def yX0_yearWithThing : MethodName := ⟨RX0, "yearWithThing", "(III)I"⟩
abbrev cX0_monthLength : ByteArray := prog_2_method_8_code
def yX0_monthLength : MethodName := ⟨RX0, "monthLength", "(IZ)I"⟩
abbrev cX0_monthBehindFirst : ByteArray := prog_2_method_9_code
def yX0_monthBehindFirst : MethodName := ⟨RX0, "monthBehindFirst", "(I)I"⟩
abbrev cX0_isInEachYear : ByteArray := prog_2_method_10_code
def yX0_isInEachYear : MethodName := ⟨RX0, "isInEachYear", "(II)Z"⟩
abbrev cX0_countOf : ByteArray := prog_2_method_11_code
def yX0_countOf : MethodName := ⟨RX0, "countOf", "(II)J"⟩
abbrev cX0_yearOfCount : ByteArray := prog_2_method_12_code
def yX0_yearOfCount : MethodName := ⟨RX0, "yearOfCount", "(J)I"⟩
abbrev cX0_monthOf : ByteArray := prog_2_method_13_code
def yX0_monthOf : MethodName := ⟨RX0, "monthOf", "(J)I"⟩
abbrev cX0_lengthOf : ByteArray := prog_2_method_14_code
def yX0_lengthOf : MethodName := ⟨RX0, "lengthOf", "(J)I"⟩
abbrev cX0_isDayOfCount : ByteArray := prog_2_method_15_code
def yX0_isDayOfCount : MethodName := ⟨RX0, "isDayOfCount", "(JI)Z"⟩
abbrev cX0_daysAheadOf : ByteArray := prog_2_method_16_code
def yX0_daysAheadOf : MethodName := ⟨RX0, "daysAheadOf", "(IZ)I"⟩
abbrev cX0_monthOfPlace : ByteArray := prog_2_method_17_code
def yX0_monthOfPlace : MethodName := ⟨RX0, "monthOfPlace", "(IZ)I"⟩
abbrev cX0_placeOf : ByteArray := prog_2_method_18_code
def yX0_placeOf : MethodName := ⟨RX0, "placeOf", "(JI)I"⟩
abbrev cX0_dayNumberOf : ByteArray := prog_2_method_19_code
def yX0_dayNumberOf : MethodName := ⟨RX0, "dayNumberOf", "(JI)J"⟩
abbrev cX0_weekdayOf : ByteArray := prog_2_method_20_code
def yX0_weekdayOf : MethodName := ⟨RX0, "weekdayOf", "(J)I"⟩
abbrev cX0_monthsInUnits : ByteArray := prog_2_method_21_code
def yX0_monthsInUnits : MethodName := ⟨RX0, "monthsInUnits", "(II)J"⟩
abbrev cX0_unitsInMonths : ByteArray := prog_2_method_22_code
def yX0_unitsInMonths : MethodName := ⟨RX0, "unitsInMonths", "(JI)J"⟩
abbrev cX0_sizeOf : ByteArray := prog_2_method_23_code
def yX0_sizeOf : MethodName := ⟨RX0, "sizeOf", "(I)J"⟩
def RX1 : String := "Monthyears"
def TX1 : u_T := fun k => match k with
  | 0 => ("Monthyears", "leafCounts", "[J", true)
  | 1 => ("Monthyears", "yearNumbers", "[I", true)
  | 2 => ("Monthyears", "feastMonths", "[I", true)
  | 3 => ("Monthyears", "feastDays", "[I", true)
  | 4 => ("Monthyears", "dayLeaves", "[J", true)
  | 5 => ("Monthyears", "dayNumbers", "[I", true)
  | 6 => ("Monthyears", "text", "Ljava/lang/StringBuilder;", true)
  | _ => ("Monthyears", "knocks", "I", false)
def tyX1 : Nat → FieldType := fun k => match k with
  | 0 => .array .long
  | 1 => .array .int
  | 2 => .array .int
  | 3 => .array .int
  | 4 => .array .long
  | 5 => .array .int
  | 6 => .object "java/lang/StringBuilder"
  | _ => .int
abbrev wsX10 : List Cond := u_ws RX1 TX1 8
theorem nmX1 : ∀ a, a < 8 → ∀ b, b < 8 → a ≠ b → (TX1 a).2.1 ≠ (TX1 b).2.1 := by decide +kernel
theorem tyX1_ok : ∀ k, k < 8 → parseFieldDescriptor (TX1 k).2.2.1 = some (tyX1 k) := by decide +kernel
abbrev cX1_init : ByteArray := prog_1_method_1_code
def yX1_init : MethodName := ⟨RX1, "<init>", "()V"⟩
abbrev cX1_leaf : ByteArray := prog_1_method_2_code
def yX1_leaf : MethodName := ⟨RX1, "leaf", "(III)I"⟩
abbrev cX1_leafRound : ByteArray := prog_1_method_3_code
def yX1_leafRound : MethodName := ⟨RX1, "leafRound", "(III)I"⟩
abbrev cX1_months : ByteArray := prog_1_method_4_code
def yX1_months : MethodName := ⟨RX1, "months", "(IIZ)I"⟩
abbrev cX1_years : ByteArray := prog_1_method_5_code
def yX1_years : MethodName := ⟨RX1, "years", "(IIZ)I"⟩
abbrev cX1_units : ByteArray := prog_1_method_6_code
def yX1_units : MethodName := ⟨RX1, "units", "(IIIZ)I"⟩
abbrev cX1_both : ByteArray := prog_1_method_7_code
def yX1_both : MethodName := ⟨RX1, "both", "(IIIZ)I"⟩
abbrev cX1_leafYear : ByteArray := prog_1_method_8_code
def yX1_leafYear : MethodName := ⟨RX1, "leafYear", "(II)I"⟩
abbrev cX1_leafMonth : ByteArray := prog_1_method_9_code
def yX1_leafMonth : MethodName := ⟨RX1, "leafMonth", "(II)I"⟩
abbrev cX1_leafWith : ByteArray := prog_1_method_10_code
def yX1_leafWith : MethodName := ⟨RX1, "leafWith", "(III)I"⟩
abbrev cX1_leafOf : ByteArray := prog_1_method_11_code
def yX1_leafOf : MethodName := ⟨RX1, "leafOf", "(III)I"⟩
abbrev cX1_leafOfRound : ByteArray := prog_1_method_12_code
def yX1_leafOfRound : MethodName := ⟨RX1, "leafOfRound", "(III)I"⟩
abbrev cX1_leafOfDay : ByteArray := prog_1_method_13_code
def yX1_leafOfDay : MethodName := ⟨RX1, "leafOfDay", "(II)I"⟩
abbrev cX1_leafLike : ByteArray := prog_1_method_14_code
def yX1_leafLike : MethodName := ⟨RX1, "leafLike", "(II)I"⟩
abbrev cX1_year : ByteArray := prog_1_method_15_code
def yX1_year : MethodName := ⟨RX1, "year", "(II)I"⟩
abbrev cX1_later : ByteArray := prog_1_method_16_code
def yX1_later : MethodName := ⟨RX1, "later", "(IIZ)I"⟩
abbrev cX1_yearUnits : ByteArray := prog_1_method_17_code
def yX1_yearUnits : MethodName := ⟨RX1, "yearUnits", "(IIIZ)I"⟩
abbrev cX1_yearWith : ByteArray := prog_1_method_18_code
def yX1_yearWith : MethodName := ⟨RX1, "yearWith", "(III)I"⟩
abbrev cX1_yearOf : ByteArray := prog_1_method_19_code
def yX1_yearOf : MethodName := ⟨RX1, "yearOf", "(IZI)I"⟩
abbrev cX1_yearLike : ByteArray := prog_1_method_20_code
def yX1_yearLike : MethodName := ⟨RX1, "yearLike", "(II)I"⟩
abbrev cX1_feast : ByteArray := prog_1_method_21_code
def yX1_feast : MethodName := ⟨RX1, "feast", "(III)I"⟩
abbrev cX1_feastRound : ByteArray := prog_1_method_22_code
def yX1_feastRound : MethodName := ⟨RX1, "feastRound", "(III)I"⟩
abbrev cX1_feastMonth : ByteArray := prog_1_method_23_code
def yX1_feastMonth : MethodName := ⟨RX1, "feastMonth", "(IIZ)I"⟩
abbrev cX1_feastDay : ByteArray := prog_1_method_24_code
def yX1_feastDay : MethodName := ⟨RX1, "feastDay", "(IIZ)I"⟩
abbrev cX1_feastOf : ByteArray := prog_1_method_25_code
def yX1_feastOf : MethodName := ⟨RX1, "feastOf", "(II)I"⟩
abbrev cX1_feastLike : ByteArray := prog_1_method_26_code
def yX1_feastLike : MethodName := ⟨RX1, "feastLike", "(II)I"⟩
abbrev cX1_dayAt : ByteArray := prog_1_method_27_code
def yX1_dayAt : MethodName := ⟨RX1, "dayAt", "(III)I"⟩
abbrev cX1_dayEnd : ByteArray := prog_1_method_28_code
def yX1_dayEnd : MethodName := ⟨RX1, "dayEnd", "(II)I"⟩
abbrev cX1_dayInYear : ByteArray := prog_1_method_29_code
def yX1_dayInYear : MethodName := ⟨RX1, "dayInYear", "(III)I"⟩
abbrev cX1_dayOfFeast : ByteArray := prog_1_method_30_code
def yX1_dayOfFeast : MethodName := ⟨RX1, "dayOfFeast", "(III)I"⟩
abbrev cX1_dayOfYear : ByteArray := prog_1_method_31_code
def yX1_dayOfYear : MethodName := ⟨RX1, "dayOfYear", "(III)I"⟩
abbrev cX1_ofLeaf : ByteArray := prog_1_method_32_code
def yX1_ofLeaf : MethodName := ⟨RX1, "ofLeaf", "(II)I"⟩
abbrev cX1_count : ByteArray := prog_1_method_33_code
def yX1_count : MethodName := ⟨RX1, "count", "(I)Ljava/lang/String;"⟩
abbrev cX1_hasDay : ByteArray := prog_1_method_34_code
def yX1_hasDay : MethodName := ⟨RX1, "hasDay", "(II)Z"⟩
abbrev cX1_leafOrder : ByteArray := prog_1_method_35_code
def yX1_leafOrder : MethodName := ⟨RX1, "leafOrder", "(III)I"⟩
abbrev cX1_isLeaf : ByteArray := prog_1_method_36_code
def yX1_isLeaf : MethodName := ⟨RX1, "isLeaf", "(III)Z"⟩
abbrev cX1_leafTo : ByteArray := prog_1_method_37_code
def yX1_leafTo : MethodName := ⟨RX1, "leafTo", "(IIIZ)Ljava/lang/String;"⟩
abbrev cX1_ofYear : ByteArray := prog_1_method_38_code
def yX1_ofYear : MethodName := ⟨RX1, "ofYear", "(II)I"⟩
abbrev cX1_isLeap : ByteArray := prog_1_method_39_code
def yX1_isLeap : MethodName := ⟨RX1, "isLeap", "(II)Z"⟩
abbrev cX1_hasFeast : ByteArray := prog_1_method_40_code
def yX1_hasFeast : MethodName := ⟨RX1, "hasFeast", "(IIZ)Z"⟩
abbrev cX1_yearOrder : ByteArray := prog_1_method_41_code
def yX1_yearOrder : MethodName := ⟨RX1, "yearOrder", "(III)I"⟩
abbrev cX1_isYear : ByteArray := prog_1_method_42_code
def yX1_isYear : MethodName := ⟨RX1, "isYear", "(III)Z"⟩
abbrev cX1_yearTo : ByteArray := prog_1_method_43_code
def yX1_yearTo : MethodName := ⟨RX1, "yearTo", "(IIIZ)Ljava/lang/String;"⟩
abbrev cX1_ofFeast : ByteArray := prog_1_method_44_code
def yX1_ofFeast : MethodName := ⟨RX1, "ofFeast", "(II)I"⟩
abbrev cX1_isInYear : ByteArray := prog_1_method_45_code
def yX1_isInYear : MethodName := ⟨RX1, "isInYear", "(II)Z"⟩
abbrev cX1_feastOrder : ByteArray := prog_1_method_46_code
def yX1_feastOrder : MethodName := ⟨RX1, "feastOrder", "(III)I"⟩
abbrev cX1_isFeast : ByteArray := prog_1_method_47_code
def yX1_isFeast : MethodName := ⟨RX1, "isFeast", "(III)Z"⟩
abbrev cX1_ofDay : ByteArray := prog_1_method_48_code
def yX1_ofDay : MethodName := ⟨RX1, "ofDay", "(II)I"⟩
abbrev cX1_number : ByteArray := prog_1_method_49_code
def yX1_number : MethodName := ⟨RX1, "number", "(I)Ljava/lang/String;"⟩
abbrev cX1_dayOrder : ByteArray := prog_1_method_50_code
def yX1_dayOrder : MethodName := ⟨RX1, "dayOrder", "(III)I"⟩
abbrev cX1_knows : ByteArray := prog_1_method_51_code
def yX1_knows : MethodName := ⟨RX1, "knows", "(II)Z"⟩
abbrev cX1_edge : ByteArray := prog_1_method_52_code
def yX1_edge : MethodName := ⟨RX1, "edge", "(Z)I"⟩
abbrev cX1_knock : ByteArray := prog_1_method_53_code
def yX1_knock : MethodName := ⟨RX1, "knock", "()I"⟩
abbrev cX1_house : ByteArray := prog_1_method_54_code
def yX1_house : MethodName := ⟨RX1, "house", "(I)I"⟩
abbrev cX1_isSound : ByteArray := prog_1_method_55_code
def yX1_isSound : MethodName := ⟨RX1, "isSound", "()Z"⟩
abbrev cX1_digest : ByteArray := prog_1_method_56_code
def yX1_digest : MethodName := ⟨RX1, "digest", "()J"⟩
abbrev cX1_needPlace : ByteArray := prog_1_method_57_code
def yX1_needPlace : MethodName := ⟨RX1, "needPlace", "(I)V"⟩
abbrev cX1_needWithin : ByteArray := prog_1_method_58_code
def yX1_needWithin : MethodName := ⟨RX1, "needWithin", "(III)V"⟩
abbrev cX1_needYearNumber : ByteArray := prog_1_method_59_code
def yX1_needYearNumber : MethodName := ⟨RX1, "needYearNumber", "(I)V"⟩
abbrev cX1_needMonth : ByteArray := prog_1_method_60_code
def yX1_needMonth : MethodName := ⟨RX1, "needMonth", "(I)V"⟩
abbrev cX1_needDayOfMonth : ByteArray := prog_1_method_61_code
def yX1_needDayOfMonth : MethodName := ⟨RX1, "needDayOfMonth", "(I)V"⟩
abbrev cX1_needYearThing : ByteArray := prog_1_method_62_code
def yX1_needYearThing : MethodName := ⟨RX1, "needYearThing", "(II)V"⟩
abbrev cX1_putLeaf : ByteArray := prog_1_method_63_code
def yX1_putLeaf : MethodName := ⟨RX1, "putLeaf", "(IJ)I"⟩
abbrev cX1_moveLeaf : ByteArray := prog_1_method_64_code
def yX1_moveLeaf : MethodName := ⟨RX1, "moveLeaf", "(IJZ)I"⟩
abbrev cX1_putYear : ByteArray := prog_1_method_65_code
def yX1_putYear : MethodName := ⟨RX1, "putYear", "(IJ)I"⟩
abbrev cX1_moveYear : ByteArray := prog_1_method_66_code
def yX1_moveYear : MethodName := ⟨RX1, "moveYear", "(IJZ)I"⟩
abbrev cX1_putFeast : ByteArray := prog_1_method_67_code
def yX1_putFeast : MethodName := ⟨RX1, "putFeast", "(III)Z"⟩
abbrev cX1_putDay : ByteArray := prog_1_method_68_code
def yX1_putDay : MethodName := ⟨RX1, "putDay", "(IJI)V"⟩
abbrev cX1_putDayOfFeast : ByteArray := prog_1_method_69_code
def yX1_putDayOfFeast : MethodName := ⟨RX1, "putDayOfFeast", "(III)V"⟩
abbrev cX1_oneIf : ByteArray := prog_1_method_70_code
def yX1_oneIf : MethodName := ⟨RX1, "oneIf", "(Z)I"⟩
abbrev cX1_orderTold : ByteArray := prog_1_method_71_code
def yX1_orderTold : MethodName := ⟨RX1, "orderTold", "(JJI)I"⟩
abbrev cX1_unitsToLeaf : ByteArray := prog_1_method_72_code
def yX1_unitsToLeaf : MethodName := ⟨RX1, "unitsToLeaf", "(III)J"⟩
abbrev cX1_feastRank : ByteArray := prog_1_method_73_code
def yX1_feastRank : MethodName := ⟨RX1, "feastRank", "(I)I"⟩
abbrev cX1_isFeastIn : ByteArray := prog_1_method_74_code
def yX1_isFeastIn : MethodName := ⟨RX1, "isFeastIn", "(II)Z"⟩
abbrev cX1_dayOfFeastIn : ByteArray := prog_1_method_75_code
def yX1_dayOfFeastIn : MethodName := ⟨RX1, "dayOfFeastIn", "(II)I"⟩
abbrev cX1_numberOfFeastIn : ByteArray := prog_1_method_76_code
def yX1_numberOfFeastIn : MethodName := ⟨RX1, "numberOfFeastIn", "(II)J"⟩
abbrev cX1_dayNumberAt : ByteArray := prog_1_method_77_code
def yX1_dayNumberAt : MethodName := ⟨RX1, "dayNumberAt", "(I)J"⟩
abbrev cX1_weekdayAt : ByteArray := prog_1_method_78_code
def yX1_weekdayAt : MethodName := ⟨RX1, "weekdayAt", "(I)I"⟩
abbrev cX1_isLastOfMonth : ByteArray := prog_1_method_79_code
def yX1_isLastOfMonth : MethodName := ⟨RX1, "isLastOfMonth", "(I)Z"⟩
abbrev cX1_isCounted : ByteArray := prog_1_method_80_code
def yX1_isCounted : MethodName := ⟨RX1, "isCounted", "(II)Z"⟩
abbrev cX1_textOf : ByteArray := prog_1_method_81_code
def yX1_textOf : MethodName := ⟨RX1, "textOf", "(J)Ljava/lang/String;"⟩
abbrev cX1_writeText : ByteArray := prog_1_method_82_code
def yX1_writeText : MethodName := ⟨RX1, "writeText", "(J)V"⟩
abbrev cX1_isLeafSound : ByteArray := prog_1_method_83_code
def yX1_isLeafSound : MethodName := ⟨RX1, "isLeafSound", "(J)Z"⟩
abbrev cX1_isNextSound : ByteArray := prog_1_method_84_code
def yX1_isNextSound : MethodName := ⟨RX1, "isNextSound", "(JJ)Z"⟩
abbrev cX1_isYearSound : ByteArray := prog_1_method_85_code
def yX1_isYearSound : MethodName := ⟨RX1, "isYearSound", "(I)Z"⟩
abbrev cX1_daysOf400Years : ByteArray := prog_1_method_86_code
def yX1_daysOf400Years : MethodName := ⟨RX1, "daysOf400Years", "(I)J"⟩
abbrev cX1_isPairSound : ByteArray := prog_1_method_87_code
def yX1_isPairSound : MethodName := ⟨RX1, "isPairSound", "(II)Z"⟩
abbrev cX1_isFeastSound : ByteArray := prog_1_method_88_code
def yX1_isFeastSound : MethodName := ⟨RX1, "isFeastSound", "(II)Z"⟩
abbrev cX1_withText : ByteArray := prog_1_method_89_code
def yX1_withText : MethodName := ⟨RX1, "withText", "(JJ)J"⟩
abbrev cX1_digestOfLeaves : ByteArray := prog_1_method_90_code
def yX1_digestOfLeaves : MethodName := ⟨RX1, "digestOfLeaves", "(J)J"⟩
abbrev cX1_digestOfYears : ByteArray := prog_1_method_91_code
def yX1_digestOfYears : MethodName := ⟨RX1, "digestOfYears", "(J)J"⟩
abbrev cX1_digestOfFeasts : ByteArray := prog_1_method_92_code
def yX1_digestOfFeasts : MethodName := ⟨RX1, "digestOfFeasts", "(J)J"⟩
abbrev cX1_digestOfDays : ByteArray := prog_1_method_93_code
def yX1_digestOfDays : MethodName := ⟨RX1, "digestOfDays", "(J)J"⟩
abbrev cX1_digestOfWays : ByteArray := prog_1_method_94_code
def yX1_digestOfWays : MethodName := ⟨RX1, "digestOfWays", "(J)J"⟩
abbrev cX1_digestOfFeastsInYears : ByteArray := prog_1_method_95_code
def yX1_digestOfFeastsInYears : MethodName := ⟨RX1, "digestOfFeastsInYears", "(J)J"⟩
def RX2 : String := "MonthyearsLaw$Out"
def TX2 : u_T := fun k => match k with
  | 0 => ("MonthyearsLaw$Out", "n", "J", false)
  | _ => ("MonthyearsLaw$Out", "s", "Ljava/lang/String;", false)
def tyX2 : Nat → FieldType := fun k => match k with
  | 0 => .long
  | _ => .object "java/lang/String"
abbrev wsX20 : List Cond := u_ws RX2 TX2 2
theorem nmX2 : ∀ a, a < 2 → ∀ b, b < 2 → a ≠ b → (TX2 a).2.1 ≠ (TX2 b).2.1 := by decide +kernel
theorem tyX2_ok : ∀ k, k < 2 → parseFieldDescriptor (TX2 k).2.2.1 = some (tyX2 k) := by decide +kernel
abbrev cX2_init : ByteArray := prog_4_method_1_code
def yX2_init : MethodName := ⟨RX2, "<init>", "()V"⟩
def RX3 : String := "MonthyearsModel"
def TX3 : u_T := fun k => match k with
  | 0 => ("MonthyearsModel", "leaves", "[[I", true)
  | 1 => ("MonthyearsModel", "years", "[I", true)
  | 2 => ("MonthyearsModel", "feasts", "[[I", true)
  | 3 => ("MonthyearsModel", "days", "[[I", true)
  | 4 => ("MonthyearsModel", "knocks", "I", false)
  | _ => ("MonthyearsModel", "thrown", "I", false)
def tyX3 : Nat → FieldType := fun k => match k with
  | 0 => .array (.array .int)
  | 1 => .array .int
  | 2 => .array (.array .int)
  | 3 => .array (.array .int)
  | 4 => .int
  | _ => .int
abbrev wsX30 : List Cond := u_ws RX3 TX3 6
theorem nmX3 : ∀ a, a < 6 → ∀ b, b < 6 → a ≠ b → (TX3 a).2.1 ≠ (TX3 b).2.1 := by decide +kernel
theorem tyX3_ok : ∀ k, k < 6 → parseFieldDescriptor (TX3 k).2.2.1 = some (tyX3 k) := by decide +kernel
abbrev cX3_init : ByteArray := prog_5_method_1_code
def yX3_init : MethodName := ⟨RX3, "<init>", "()V"⟩
abbrev cX3_thrown : ByteArray := prog_5_method_2_code
def yX3_thrown : MethodName := ⟨RX3, "thrown", "()I"⟩
abbrev cX3_isIn : ByteArray := prog_5_method_3_code
def yX3_isIn : MethodName := ⟨RX3, "isIn", "(JJJ)Z"⟩
abbrev cX3_bit : ByteArray := prog_5_method_4_code
def yX3_bit : MethodName := ⟨RX3, "bit", "(Z)I"⟩
abbrev cX3_fails : ByteArray := prog_5_method_5_code
def yX3_fails : MethodName := ⟨RX3, "fails", "(ZZ)Z"⟩
abbrev cX3_isNo : ByteArray := prog_5_method_6_code
def yX3_isNo : MethodName := ⟨RX3, "isNo", "(I)Z"⟩
abbrev cX3_isNoYear : ByteArray := prog_5_method_7_code
def yX3_isNoYear : MethodName := ⟨RX3, "isNoYear", "(J)Z"⟩
abbrev cX3_isNoMonth : ByteArray := prog_5_method_8_code
def yX3_isNoMonth : MethodName := ⟨RX3, "isNoMonth", "(I)Z"⟩
abbrev cX3_isMultiple : ByteArray := prog_5_method_9_code
def yX3_isMultiple : MethodName := ⟨RX3, "isMultiple", "(JI)Z"⟩
abbrev cX3_isLeapYear : ByteArray := prog_5_method_10_code
def yX3_isLeapYear : MethodName := ⟨RX3, "isLeapYear", "(J)Z"⟩
abbrev cX3_length : ByteArray := prog_5_method_11_code
def yX3_length : MethodName := ⟨RX3, "length", "(JI)I"⟩
abbrev cX3_daysOf : ByteArray := prog_5_method_12_code
def yX3_daysOf : MethodName := ⟨RX3, "daysOf", "(J)I"⟩
abbrev cX3_rest : ByteArray := prog_5_method_13_code
def yX3_rest : MethodName := ⟨RX3, "rest", "(JI)I"⟩
abbrev cX3_floor : ByteArray := prog_5_method_14_code
def yX3_floor : MethodName := ⟨RX3, "floor", "(JI)J"⟩
abbrev cX3_round : ByteArray := prog_5_method_15_code
def yX3_round : MethodName := ⟨RX3, "round", "(I)I"⟩
abbrev cX3_place : ByteArray := prog_5_method_16_code
def yX3_place : MethodName := ⟨RX3, "place", "(III)I"⟩
abbrev cX3_numberOf : ByteArray := prog_5_method_17_code
def yX3_numberOf : MethodName := ⟨RX3, "numberOf", "([I)J"⟩
abbrev cX3_weekday : ByteArray := prog_5_method_18_code
def yX3_weekday : MethodName := ⟨RX3, "weekday", "([I)I"⟩
abbrev cX3_side : ByteArray := prog_5_method_19_code
def yX3_side : MethodName := ⟨RX3, "side", "(I)I"⟩
abbrev cX3_rank : ByteArray := prog_5_method_20_code
def yX3_rank : MethodName := ⟨RX3, "rank", "(I)I"⟩
abbrev cX3_ranked : ByteArray := prog_5_method_21_code
def yX3_ranked : MethodName := ⟨RX3, "ranked", "(II)J"⟩
abbrev cX3_countOf : ByteArray := prog_5_method_22_code
def yX3_countOf : MethodName := ⟨RX3, "countOf", "([I)J"⟩
abbrev cX3_signed : ByteArray := prog_5_method_23_code
def yX3_signed : MethodName := ⟨RX3, "signed", "(JZ)J"⟩
abbrev cX3_isEach : ByteArray := prog_5_method_24_code
def yX3_isEach : MethodName := ⟨RX3, "isEach", "([I)Z"⟩
abbrev cX3_isInNow : ByteArray := prog_5_method_25_code
def yX3_isInNow : MethodName := ⟨RX3, "isInNow", "([IJ)Z"⟩
abbrev cX3_dayOf : ByteArray := prog_5_method_26_code
def yX3_dayOf : MethodName := ⟨RX3, "dayOf", "([II)[I"⟩
abbrev cX3_lengthAt : ByteArray := prog_5_method_27_code
def yX3_lengthAt : MethodName := ⟨RX3, "lengthAt", "(I)I"⟩
abbrev cX3_putLeaf : ByteArray := prog_5_method_28_code
def yX3_putLeaf : MethodName := ⟨RX3, "putLeaf", "(III)I"⟩
abbrev cX3_putCount : ByteArray := prog_5_method_29_code
def yX3_putCount : MethodName := ⟨RX3, "putCount", "(IJ)I"⟩
abbrev cX3_leaf : ByteArray := prog_5_method_30_code
def yX3_leaf : MethodName := ⟨RX3, "leaf", "(III)I"⟩
abbrev cX3_leafRound : ByteArray := prog_5_method_31_code
def yX3_leafRound : MethodName := ⟨RX3, "leafRound", "(III)I"⟩
abbrev cX3_months : ByteArray := prog_5_method_32_code
def yX3_months : MethodName := ⟨RX3, "months", "(IIZ)I"⟩
abbrev cX3_years : ByteArray := prog_5_method_33_code
def yX3_years : MethodName := ⟨RX3, "years", "(IIZ)I"⟩
abbrev cX3_units : ByteArray := prog_5_method_34_code
def yX3_units : MethodName := ⟨RX3, "units", "(IIIZ)I"⟩
abbrev cX3_both : ByteArray := prog_5_method_35_code
def yX3_both : MethodName := ⟨RX3, "both", "(IIIZ)I"⟩
abbrev cX3_leafYear : ByteArray := prog_5_method_36_code
def yX3_leafYear : MethodName := ⟨RX3, "leafYear", "(II)I"⟩
abbrev cX3_leafMonth : ByteArray := prog_5_method_37_code
def yX3_leafMonth : MethodName := ⟨RX3, "leafMonth", "(II)I"⟩
abbrev cX3_isNoThing : ByteArray := prog_5_method_38_code
def yX3_isNoThing : MethodName := ⟨RX3, "isNoThing", "(II)Z"⟩
abbrev cX3_leafWith : ByteArray := prog_5_method_39_code
def yX3_leafWith : MethodName := ⟨RX3, "leafWith", "(III)I"⟩
abbrev cX3_leafOf : ByteArray := prog_5_method_40_code
def yX3_leafOf : MethodName := ⟨RX3, "leafOf", "(III)I"⟩
abbrev cX3_leafOfRound : ByteArray := prog_5_method_41_code
def yX3_leafOfRound : MethodName := ⟨RX3, "leafOfRound", "(III)I"⟩
abbrev cX3_leafOfDay : ByteArray := prog_5_method_42_code
def yX3_leafOfDay : MethodName := ⟨RX3, "leafOfDay", "(II)I"⟩
abbrev cX3_areSame : ByteArray := prog_5_method_43_code
def yX3_areSame : MethodName := ⟨RX3, "areSame", "([I[I)Z"⟩
abbrev cX3_leafLike : ByteArray := prog_5_method_44_code
def yX3_leafLike : MethodName := ⟨RX3, "leafLike", "(II)I"⟩
abbrev cX3_putYear : ByteArray := prog_5_method_45_code
def yX3_putYear : MethodName := ⟨RX3, "putYear", "(IJ)I"⟩
abbrev cX3_year : ByteArray := prog_5_method_46_code
def yX3_year : MethodName := ⟨RX3, "year", "(II)I"⟩
abbrev cX3_later : ByteArray := prog_5_method_47_code
def yX3_later : MethodName := ⟨RX3, "later", "(IIZ)I"⟩
abbrev cX3_yearUnits : ByteArray := prog_5_method_48_code
def yX3_yearUnits : MethodName := ⟨RX3, "yearUnits", "(IIIZ)I"⟩
abbrev cX3_yearWith : ByteArray := prog_5_method_49_code
def yX3_yearWith : MethodName := ⟨RX3, "yearWith", "(III)I"⟩
abbrev cX3_yearOf : ByteArray := prog_5_method_50_code
def yX3_yearOf : MethodName := ⟨RX3, "yearOf", "(IZI)I"⟩
abbrev cX3_yearLike : ByteArray := prog_5_method_51_code
def yX3_yearLike : MethodName := ⟨RX3, "yearLike", "(II)I"⟩
abbrev cX3_isPutFeast : ByteArray := prog_5_method_52_code
def yX3_isPutFeast : MethodName := ⟨RX3, "isPutFeast", "(III)Z"⟩
abbrev cX3_feast : ByteArray := prog_5_method_53_code
def yX3_feast : MethodName := ⟨RX3, "feast", "(III)I"⟩
abbrev cX3_feastRound : ByteArray := prog_5_method_54_code
def yX3_feastRound : MethodName := ⟨RX3, "feastRound", "(III)I"⟩
abbrev cX3_feastMonth : ByteArray := prog_5_method_55_code
def yX3_feastMonth : MethodName := ⟨RX3, "feastMonth", "(IIZ)I"⟩
abbrev cX3_feastDay : ByteArray := prog_5_method_56_code
def yX3_feastDay : MethodName := ⟨RX3, "feastDay", "(IIZ)I"⟩
abbrev cX3_feastOf : ByteArray := prog_5_method_57_code
def yX3_feastOf : MethodName := ⟨RX3, "feastOf", "(II)I"⟩
abbrev cX3_feastLike : ByteArray := prog_5_method_58_code
def yX3_feastLike : MethodName := ⟨RX3, "feastLike", "(II)I"⟩
abbrev cX3_putDay : ByteArray := prog_5_method_59_code
def yX3_putDay : MethodName := ⟨RX3, "putDay", "(IIII)V"⟩
abbrev cX3_dayAt : ByteArray := prog_5_method_60_code
def yX3_dayAt : MethodName := ⟨RX3, "dayAt", "(III)I"⟩
abbrev cX3_dayEnd : ByteArray := prog_5_method_61_code
def yX3_dayEnd : MethodName := ⟨RX3, "dayEnd", "(II)I"⟩
abbrev cX3_dayInYear : ByteArray := prog_5_method_62_code
def yX3_dayInYear : MethodName := ⟨RX3, "dayInYear", "(III)I"⟩
abbrev cX3_dayOfFeast : ByteArray := prog_5_method_63_code
def yX3_dayOfFeast : MethodName := ⟨RX3, "dayOfFeast", "(III)I"⟩
abbrev cX3_dayOfYear : ByteArray := prog_5_method_64_code
def yX3_dayOfYear : MethodName := ⟨RX3, "dayOfYear", "(III)I"⟩
abbrev cX3_leafTold : ByteArray := prog_5_method_65_code
def yX3_leafTold : MethodName := ⟨RX3, "leafTold", "(II)I"⟩
abbrev cX3_ofLeaf : ByteArray := prog_5_method_66_code
def yX3_ofLeaf : MethodName := ⟨RX3, "ofLeaf", "(II)I"⟩
abbrev cX3_count : ByteArray := prog_5_method_67_code
def yX3_count : MethodName := ⟨RX3, "count", "(I)Ljava/lang/String;"⟩
abbrev cX3_hasDay : ByteArray := prog_5_method_68_code
def yX3_hasDay : MethodName := ⟨RX3, "hasDay", "(II)Z"⟩
abbrev cX3_order : ByteArray := prog_5_method_69_code
def yX3_order : MethodName := ⟨RX3, "order", "(JJI)I"⟩
abbrev cX3_isNoOrder : ByteArray := prog_5_method_70_code
def yX3_isNoOrder : MethodName := ⟨RX3, "isNoOrder", "(I)Z"⟩
abbrev cX3_leafOrder : ByteArray := prog_5_method_71_code
def yX3_leafOrder : MethodName := ⟨RX3, "leafOrder", "(III)I"⟩
abbrev cX3_failsSame : ByteArray := prog_5_method_72_code
def yX3_failsSame : MethodName := ⟨RX3, "failsSame", "(III)Z"⟩
abbrev cX3_isLeaf : ByteArray := prog_5_method_73_code
def yX3_isLeaf : MethodName := ⟨RX3, "isLeaf", "(III)Z"⟩
abbrev cX3_leafToNow : ByteArray := prog_5_method_74_code
def yX3_leafToNow : MethodName := ⟨RX3, "leafToNow", "(III)Ljava/lang/String;"⟩
abbrev cX3_leafTo : ByteArray := prog_5_method_75_code
def yX3_leafTo : MethodName := ⟨RX3, "leafTo", "(IIIZ)Ljava/lang/String;"⟩
abbrev cX3_yearTold : ByteArray := prog_5_method_76_code
def yX3_yearTold : MethodName := ⟨RX3, "yearTold", "(II)I"⟩
abbrev cX3_ofYear : ByteArray := prog_5_method_77_code
def yX3_ofYear : MethodName := ⟨RX3, "ofYear", "(II)I"⟩
abbrev cX3_isLeap : ByteArray := prog_5_method_78_code
def yX3_isLeap : MethodName := ⟨RX3, "isLeap", "(II)Z"⟩
abbrev cX3_hasFeast : ByteArray := prog_5_method_79_code
def yX3_hasFeast : MethodName := ⟨RX3, "hasFeast", "(IIZ)Z"⟩
abbrev cX3_yearOrder : ByteArray := prog_5_method_80_code
def yX3_yearOrder : MethodName := ⟨RX3, "yearOrder", "(III)I"⟩
abbrev cX3_isYear : ByteArray := prog_5_method_81_code
def yX3_isYear : MethodName := ⟨RX3, "isYear", "(III)Z"⟩
abbrev cX3_yearTo : ByteArray := prog_5_method_82_code
def yX3_yearTo : MethodName := ⟨RX3, "yearTo", "(IIIZ)Ljava/lang/String;"⟩
abbrev cX3_feastTold : ByteArray := prog_5_method_83_code
def yX3_feastTold : MethodName := ⟨RX3, "feastTold", "(II)I"⟩
abbrev cX3_ofFeast : ByteArray := prog_5_method_84_code
def yX3_ofFeast : MethodName := ⟨RX3, "ofFeast", "(II)I"⟩
abbrev cX3_isInYear : ByteArray := prog_5_method_85_code
def yX3_isInYear : MethodName := ⟨RX3, "isInYear", "(II)Z"⟩
abbrev cX3_feastOrder : ByteArray := prog_5_method_86_code
def yX3_feastOrder : MethodName := ⟨RX3, "feastOrder", "(III)I"⟩
abbrev cX3_isFeast : ByteArray := prog_5_method_87_code
def yX3_isFeast : MethodName := ⟨RX3, "isFeast", "(III)Z"⟩
abbrev cX3_dayTold : ByteArray := prog_5_method_88_code
def yX3_dayTold : MethodName := ⟨RX3, "dayTold", "(II)I"⟩
abbrev cX3_ofDay : ByteArray := prog_5_method_89_code
def yX3_ofDay : MethodName := ⟨RX3, "ofDay", "(II)I"⟩
abbrev cX3_number : ByteArray := prog_5_method_90_code
def yX3_number : MethodName := ⟨RX3, "number", "(I)Ljava/lang/String;"⟩
abbrev cX3_dayOrder : ByteArray := prog_5_method_91_code
def yX3_dayOrder : MethodName := ⟨RX3, "dayOrder", "(III)I"⟩
abbrev cX3_knows : ByteArray := prog_5_method_92_code
def yX3_knows : MethodName := ⟨RX3, "knows", "(II)Z"⟩
abbrev cX3_edge : ByteArray := prog_5_method_93_code
def yX3_edge : MethodName := ⟨RX3, "edge", "(Z)I"⟩
abbrev cX3_knock : ByteArray := prog_5_method_94_code
def yX3_knock : MethodName := ⟨RX3, "knock", "()I"⟩
abbrev cX3_houseTold : ByteArray := prog_5_method_95_code
def yX3_houseTold : MethodName := ⟨RX3, "houseTold", "(I)I"⟩
abbrev cX3_house : ByteArray := prog_5_method_96_code
def yX3_house : MethodName := ⟨RX3, "house", "(I)I"⟩
abbrev cX3_isSound : ByteArray := prog_5_method_97_code
def yX3_isSound : MethodName := ⟨RX3, "isSound", "()Z"⟩
abbrev cX3_add : ByteArray := prog_5_method_98_code
def yX3_add : MethodName := ⟨RX3, "add", "(JJ)J"⟩
abbrev cX3_add_ : ByteArray := prog_5_method_99_code
def yX3_add_ : MethodName := ⟨RX3, "add", "(JLjava/lang/String;)J"⟩
abbrev cX3_digest : ByteArray := prog_5_method_100_code
def yX3_digest : MethodName := ⟨RX3, "digest", "()J"⟩
def RJ5 : String := "java/lang/AbstractStringBuilder"
def TJ5 : u_T := fun k => match k with
  | _ => ("", "", "", false)
def tyJ5 : Nat → FieldType := fun k => match k with
  | _ => .int
abbrev wsJ50 : List Cond := u_ws RJ5 TJ5 0
theorem nmJ5 : ∀ a, a < 0 → ∀ b, b < 0 → a ≠ b → (TJ5 a).2.1 ≠ (TJ5 b).2.1 := by decide +kernel
theorem tyJ5_ok : ∀ k, k < 0 → parseFieldDescriptor (TJ5 k).2.2.1 = some (tyJ5 k) := by decide +kernel
abbrev cJ5_init_d00df : ByteArray := prog_6_method_2_code
def yJ5_init_d00df : MethodName := ⟨RJ5, "<init>", "(I)V"⟩
abbrev cJ5_length_8abf5 : ByteArray := prog_6_method_6_code
def yJ5_length_8abf5 : MethodName := ⟨RJ5, "length", "()I"⟩
abbrev cJ5_ensureCapacityInternal_d00df : ByteArray := prog_6_method_9_code
def yJ5_ensureCapacityInternal_d00df : MethodName := ⟨RJ5, "ensureCapacityInternal", "(I)V"⟩
abbrev cJ5_newCapacity_0f7a4 : ByteArray := prog_6_method_10_code
def yJ5_newCapacity_0f7a4 : MethodName := ⟨RJ5, "newCapacity", "(I)I"⟩
abbrev cJ5_inflate_da8c8 : ByteArray := prog_6_method_11_code
def yJ5_inflate_da8c8 : MethodName := ⟨RJ5, "inflate", "()V"⟩
abbrev cJ5_setLength_d00df : ByteArray := prog_6_method_13_code
def yJ5_setLength_d00df : MethodName := ⟨RJ5, "setLength", "(I)V"⟩
abbrev cJ5_charAt_5068e : ByteArray := prog_6_method_14_code
def yJ5_charAt_5068e : MethodName := ⟨RJ5, "charAt", "(I)C"⟩
abbrev cJ5_append_cf1ce : ByteArray := prog_6_method_22_code
def yJ5_append_cf1ce : MethodName := ⟨RJ5, "append", "(Ljava/lang/String;)Ljava/lang/AbstractStringBuilder;"⟩
abbrev cJ5_appendNull_278bc : ByteArray := prog_6_method_26_code
def yJ5_appendNull_278bc : MethodName := ⟨RJ5, "appendNull", "()Ljava/lang/AbstractStringBuilder;"⟩
abbrev cJ5_append_3fe6f : ByteArray := prog_6_method_31_code
def yJ5_append_3fe6f : MethodName := ⟨RJ5, "append", "(C)Ljava/lang/AbstractStringBuilder;"⟩
abbrev cJ5_append_c97b9 : ByteArray := prog_6_method_32_code
def yJ5_append_c97b9 : MethodName := ⟨RJ5, "append", "(I)Ljava/lang/AbstractStringBuilder;"⟩
abbrev cJ5_append_66267 : ByteArray := prog_6_method_33_code
def yJ5_append_66267 : MethodName := ⟨RJ5, "append", "(J)Ljava/lang/AbstractStringBuilder;"⟩
abbrev cJ5_reverse_278bc : ByteArray := prog_6_method_60_code
def yJ5_reverse_278bc : MethodName := ⟨RJ5, "reverse", "()Ljava/lang/AbstractStringBuilder;"⟩
abbrev cJ5_getValue_6d5f1 : ByteArray := prog_6_method_64_code
def yJ5_getValue_6d5f1 : MethodName := ⟨RJ5, "getValue", "()[B"⟩
abbrev cJ5_isLatin1_aae02 : ByteArray := prog_6_method_68_code
def yJ5_isLatin1_aae02 : MethodName := ⟨RJ5, "isLatin1", "()Z"⟩
abbrev cJ5_inflateIfNeededFor_a7421 : ByteArray := prog_6_method_71_code
def yJ5_inflateIfNeededFor_a7421 : MethodName := ⟨RJ5, "inflateIfNeededFor", "(Ljava/lang/String;)V"⟩
abbrev cJ5_putStringAt_47b60 : ByteArray := prog_6_method_73_code
def yJ5_putStringAt_47b60 : MethodName := ⟨RJ5, "putStringAt", "(ILjava/lang/String;)V"⟩
def RJx00060 : String := "java/lang/ArrayIndexOutOfBoundsException"
def TJx00060 : u_T := fun k => match k with
  | 0 => ("java/lang/Throwable", "cause", "Ljava/lang/Throwable;", false)
  | 1 => ("java/lang/Throwable", "stackTrace", "[Ljava/lang/StackTraceElement;", false)
  | 2 => ("java/lang/Throwable", "suppressedExceptions", "Ljava/util/List;", false)
  | 3 => ("java/lang/Throwable", "detailMessage", "Ljava/lang/String;", false)
  | 4 => ("java/lang/Throwable", "backtrace", "Ljava/lang/Object;", false)
  | _ => ("java/lang/Throwable", "depth", "I", false)
def tyJx00060 : Nat → FieldType := fun k => match k with
  | 0 => .object "java/lang/Throwable"
  | 1 => .array (.object "java/lang/StackTraceElement")
  | 2 => .object "java/util/List"
  | 3 => .object "java/lang/String"
  | 4 => .object "java/lang/Object"
  | _ => .int
abbrev wsJx000600 : List Cond := u_ws RJx00060 TJx00060 6
theorem nmJx00060 : ∀ a, a < 6 → ∀ b, b < 6 → a ≠ b → (TJx00060 a).2.1 ≠ (TJx00060 b).2.1 := by decide +kernel
theorem tyJx00060_ok : ∀ k, k < 6 → parseFieldDescriptor (TJx00060 k).2.2.1 = some (tyJx00060 k) := by decide +kernel
abbrev cJx00060_init_d00df : ByteArray := prog_7_method_3_code
def yJx00060_init_d00df : MethodName := ⟨RJx00060, "<init>", "(I)V"⟩
def RJ11 : String := "java/lang/Character"
def TJ11 : u_T := fun k => match k with
  | _ => ("", "", "", false)
def tyJ11 : Nat → FieldType := fun k => match k with
  | _ => .int
abbrev wsJ110 : List Cond := u_ws RJ11 TJ11 0
theorem nmJ11 : ∀ a, a < 0 → ∀ b, b < 0 → a ≠ b → (TJ11 a).2.1 ≠ (TJ11 b).2.1 := by decide +kernel
theorem tyJ11_ok : ∀ k, k < 0 → parseFieldDescriptor (TJ11 k).2.2.1 = some (tyJ11 k) := by decide +kernel
abbrev cJ11_isHighSurrogate_fc78d : ByteArray := prog_8_method_14_code
def yJ11_isHighSurrogate_fc78d : MethodName := ⟨RJ11, "isHighSurrogate", "(C)Z"⟩
abbrev cJ11_isLowSurrogate_fc78d : ByteArray := prog_8_method_15_code
def yJ11_isLowSurrogate_fc78d : MethodName := ⟨RJ11, "isLowSurrogate", "(C)Z"⟩
abbrev cJ11_isSurrogate_fc78d : ByteArray := prog_8_method_16_code
def yJ11_isSurrogate_fc78d : MethodName := ⟨RJ11, "isSurrogate", "(C)Z"⟩
def RJx8e188 : String := "java/lang/Cloneable"
def TJx8e188 : u_T := fun k => match k with
  | _ => ("", "", "", false)
def tyJx8e188 : Nat → FieldType := fun k => match k with
  | _ => .int
abbrev wsJx8e1880 : List Cond := u_ws RJx8e188 TJx8e188 0
theorem nmJx8e188 : ∀ a, a < 0 → ∀ b, b < 0 → a ≠ b → (TJx8e188 a).2.1 ≠ (TJx8e188 b).2.1 := by decide +kernel
theorem tyJx8e188_ok : ∀ k, k < 0 → parseFieldDescriptor (TJx8e188 k).2.2.1 = some (tyJx8e188 k) := by decide +kernel
def RJ6 : String := "java/lang/Integer"
def TJ6 : u_T := fun k => match k with
  | _ => ("", "", "", false)
def tyJ6 : Nat → FieldType := fun k => match k with
  | _ => .int
abbrev wsJ60 : List Cond := u_ws RJ6 TJ6 0
theorem nmJ6 : ∀ a, a < 0 → ∀ b, b < 0 → a ≠ b → (TJ6 a).2.1 ≠ (TJ6 b).2.1 := by decide +kernel
theorem tyJ6_ok : ∀ k, k < 0 → parseFieldDescriptor (TJ6 k).2.2.1 = some (tyJ6 k) := by decide +kernel
abbrev cJ6_getChars_ba4f3 : ByteArray := prog_13_method_12_code
def yJ6_getChars_ba4f3 : MethodName := ⟨RJ6, "getChars", "(II[B)I"⟩
abbrev cJ6_stringSize_0f7a4 : ByteArray := prog_13_method_13_code
def yJ6_stringSize_0f7a4 : MethodName := ⟨RJ6, "stringSize", "(I)I"⟩
def RJ13 : String := "java/lang/Long"
def TJ13 : u_T := fun k => match k with
  | _ => ("", "", "", false)
def tyJ13 : Nat → FieldType := fun k => match k with
  | _ => .int
abbrev wsJ130 : List Cond := u_ws RJ13 TJ13 0
theorem nmJ13 : ∀ a, a < 0 → ∀ b, b < 0 → a ≠ b → (TJ13 a).2.1 ≠ (TJ13 b).2.1 := by decide +kernel
theorem tyJ13_ok : ∀ k, k < 0 → parseFieldDescriptor (TJ13 k).2.2.1 = some (tyJ13 k) := by decide +kernel
abbrev cJ13_getChars_11360 : ByteArray := prog_14_method_14_code
def yJ13_getChars_11360 : MethodName := ⟨RJ13, "getChars", "(JI[B)I"⟩
abbrev cJ13_stringSize_95d88 : ByteArray := prog_14_method_15_code
def yJ13_stringSize_95d88 : MethodName := ⟨RJ13, "stringSize", "(J)I"⟩
def RJ9 : String := "java/lang/Math"
def TJ9 : u_T := fun k => match k with
  | _ => ("", "", "", false)
def tyJ9 : Nat → FieldType := fun k => match k with
  | _ => .int
abbrev wsJ90 : List Cond := u_ws RJ9 TJ9 0
theorem nmJ9 : ∀ a, a < 0 → ∀ b, b < 0 → a ≠ b → (TJ9 a).2.1 ≠ (TJ9 b).2.1 := by decide +kernel
theorem tyJ9_ok : ∀ k, k < 0 → parseFieldDescriptor (TJ9 k).2.2.1 = some (tyJ9 k) := by decide +kernel
abbrev cJ9_floorDiv_f86c9 : ByteArray := prog_15_method_49_code
def yJ9_floorDiv_f86c9 : MethodName := ⟨RJ9, "floorDiv", "(JJ)J"⟩
abbrev cJ9_floorMod_7cf53 : ByteArray := prog_15_method_50_code
def yJ9_floorMod_7cf53 : MethodName := ⟨RJ9, "floorMod", "(II)I"⟩
abbrev cJ9_floorMod_f86c9 : ByteArray := prog_15_method_52_code
def yJ9_floorMod_f86c9 : MethodName := ⟨RJ9, "floorMod", "(JJ)J"⟩
abbrev cJ9_max_7cf53 : ByteArray := prog_15_method_65_code
def yJ9_max_7cf53 : MethodName := ⟨RJ9, "max", "(II)I"⟩
abbrev cJ9_min_7cf53 : ByteArray := prog_15_method_69_code
def yJ9_min_7cf53 : MethodName := ⟨RJ9, "min", "(II)I"⟩
def RJ0 : String := "java/lang/String"
def TJ0 : u_T := fun k => match k with
  | 0 => ("java/lang/String", "value", "[B", true)
  | 1 => ("java/lang/String", "coder", "B", true)
  | 2 => ("java/lang/String", "hash", "I", false)
  | _ => ("java/lang/String", "hashIsZero", "Z", false)
def tyJ0 : Nat → FieldType := fun k => match k with
  | 0 => .array .byte
  | 1 => .byte
  | 2 => .int
  | _ => .boolean
abbrev wsJ00 : List Cond := u_ws RJ0 TJ0 4
theorem nmJ0 : ∀ a, a < 4 → ∀ b, b < 4 → a ≠ b → (TJ0 a).2.1 ≠ (TJ0 b).2.1 := by decide +kernel
theorem tyJ0_ok : ∀ k, k < 4 → parseFieldDescriptor (TJ0 k).2.2.1 = some (tyJ0 k) := by decide +kernel
abbrev cJ0_init_81219 : ByteArray := prog_17_method_53_code
def yJ0_init_81219 : MethodName := ⟨RJ0, "<init>", "(Ljava/lang/StringBuilder;)V"⟩
abbrev cJ0_length_8abf5 : ByteArray := prog_17_method_54_code
def yJ0_length_8abf5 : MethodName := ⟨RJ0, "length", "()I"⟩
abbrev cJ0_charAt_5068e : ByteArray := prog_17_method_56_code
def yJ0_charAt_5068e : MethodName := ⟨RJ0, "charAt", "(I)C"⟩
abbrev cJ0_equals_9ea2d : ByteArray := prog_17_method_66_code
def yJ0_equals_9ea2d : MethodName := ⟨RJ0, "equals", "(Ljava/lang/Object;)Z"⟩
abbrev cJ0_getBytes_840e7 : ByteArray := prog_17_method_147_code
def yJ0_getBytes_840e7 : MethodName := ⟨RJ0, "getBytes", "([BIB)V"⟩
abbrev cJ0_init_db425 : ByteArray := prog_17_method_150_code
def yJ0_init_db425 : MethodName := ⟨RJ0, "<init>", "(Ljava/lang/AbstractStringBuilder;Ljava/lang/Void;)V"⟩
abbrev cJ0_coder_7d493 : ByteArray := prog_17_method_152_code
def yJ0_coder_7d493 : MethodName := ⟨RJ0, "coder", "()B"⟩
abbrev cJ0_isLatin1_aae02 : ByteArray := prog_17_method_154_code
def yJ0_isLatin1_aae02 : MethodName := ⟨RJ0, "isLatin1", "()Z"⟩
abbrev cJ0_checkIndex_df160 : ByteArray := prog_17_method_155_code
def yJ0_checkIndex_df160 : MethodName := ⟨RJ0, "checkIndex", "(II)V"⟩
abbrev cJ0_checkOffset_df160 : ByteArray := prog_17_method_156_code
def yJ0_checkOffset_df160 : MethodName := ⟨RJ0, "checkOffset", "(II)V"⟩
abbrev cJ0_checkBoundsOffCount_cabcc : ByteArray := prog_17_method_157_code
def yJ0_checkBoundsOffCount_cabcc : MethodName := ⟨RJ0, "checkBoundsOffCount", "(III)I"⟩
abbrev cJ0_checkBoundsBeginEnd_23922 : ByteArray := prog_17_method_158_code
def yJ0_checkBoundsBeginEnd_23922 : MethodName := ⟨RJ0, "checkBoundsBeginEnd", "(III)V"⟩
def RJ4 : String := "java/lang/StringBuilder"
def TJ4 : u_T := fun k => match k with
  | 0 => ("java/lang/AbstractStringBuilder", "value", "[B", false)
  | 1 => ("java/lang/AbstractStringBuilder", "coder", "B", false)
  | 2 => ("java/lang/AbstractStringBuilder", "maybeLatin1", "Z", false)
  | _ => ("java/lang/AbstractStringBuilder", "count", "I", false)
def tyJ4 : Nat → FieldType := fun k => match k with
  | 0 => .array .byte
  | 1 => .byte
  | 2 => .boolean
  | _ => .int
abbrev wsJ40 : List Cond := u_ws RJ4 TJ4 4
theorem nmJ4 : ∀ a, a < 4 → ∀ b, b < 4 → a ≠ b → (TJ4 a).2.1 ≠ (TJ4 b).2.1 := by decide +kernel
theorem tyJ4_ok : ∀ k, k < 4 → parseFieldDescriptor (TJ4 k).2.2.1 = some (tyJ4 k) := by decide +kernel
abbrev cJ4_init_da8c8 : ByteArray := prog_18_method_1_code
def yJ4_init_da8c8 : MethodName := ⟨RJ4, "<init>", "()V"⟩
abbrev cJ4_append_15ec4 : ByteArray := prog_18_method_7_code
def yJ4_append_15ec4 : MethodName := ⟨RJ4, "append", "(Ljava/lang/String;)Ljava/lang/StringBuilder;"⟩
abbrev cJ4_append_cf468 : ByteArray := prog_18_method_14_code
def yJ4_append_cf468 : MethodName := ⟨RJ4, "append", "(C)Ljava/lang/StringBuilder;"⟩
abbrev cJ4_append_bf812 : ByteArray := prog_18_method_15_code
def yJ4_append_bf812 : MethodName := ⟨RJ4, "append", "(I)Ljava/lang/StringBuilder;"⟩
abbrev cJ4_append_f7089 : ByteArray := prog_18_method_16_code
def yJ4_append_f7089 : MethodName := ⟨RJ4, "append", "(J)Ljava/lang/StringBuilder;"⟩
abbrev cJ4_reverse_43fcb : ByteArray := prog_18_method_39_code
def yJ4_reverse_43fcb : MethodName := ⟨RJ4, "reverse", "()Ljava/lang/StringBuilder;"⟩
abbrev cJ4_toString_0e30d : ByteArray := prog_18_method_42_code
def yJ4_toString_0e30d : MethodName := ⟨RJ4, "toString", "()Ljava/lang/String;"⟩
abbrev cJ4_charAt_5068e : ByteArray := prog_18_method_88_code
def yJ4_charAt_5068e : MethodName := ⟨RJ4, "charAt", "(I)C"⟩
abbrev cJ4_setLength_d00df : ByteArray := prog_18_method_89_code
def yJ4_setLength_d00df : MethodName := ⟨RJ4, "setLength", "(I)V"⟩
abbrev cJ4_length_8abf5 : ByteArray := prog_18_method_93_code
def yJ4_length_8abf5 : MethodName := ⟨RJ4, "length", "()I"⟩
def RJx7c733 : String := "java/lang/StringIndexOutOfBoundsException"
def TJx7c733 : u_T := fun k => match k with
  | 0 => ("java/lang/Throwable", "backtrace", "Ljava/lang/Object;", false)
  | 1 => ("java/lang/Throwable", "detailMessage", "Ljava/lang/String;", false)
  | 2 => ("java/lang/Throwable", "cause", "Ljava/lang/Throwable;", false)
  | 3 => ("java/lang/Throwable", "stackTrace", "[Ljava/lang/StackTraceElement;", false)
  | 4 => ("java/lang/Throwable", "depth", "I", false)
  | _ => ("java/lang/Throwable", "suppressedExceptions", "Ljava/util/List;", false)
def tyJx7c733 : Nat → FieldType := fun k => match k with
  | 0 => .object "java/lang/Object"
  | 1 => .object "java/lang/String"
  | 2 => .object "java/lang/Throwable"
  | 3 => .array (.object "java/lang/StackTraceElement")
  | 4 => .int
  | _ => .object "java/util/List"
abbrev wsJx7c7330 : List Cond := u_ws RJx7c733 TJx7c733 6
theorem nmJx7c733 : ∀ a, a < 6 → ∀ b, b < 6 → a ≠ b → (TJx7c733 a).2.1 ≠ (TJx7c733 b).2.1 := by decide +kernel
theorem tyJx7c733_ok : ∀ k, k < 6 → parseFieldDescriptor (TJx7c733 k).2.2.1 = some (tyJx7c733 k) := by decide +kernel
abbrev cJx7c733_init_d00df : ByteArray := prog_19_method_3_code
def yJx7c733_init_d00df : MethodName := ⟨RJx7c733, "<init>", "(I)V"⟩
def RJ1 : String := "java/lang/StringLatin1"
def TJ1 : u_T := fun k => match k with
  | _ => ("", "", "", false)
def tyJ1 : Nat → FieldType := fun k => match k with
  | _ => .int
abbrev wsJ10 : List Cond := u_ws RJ1 TJ1 0
theorem nmJ1 : ∀ a, a < 0 → ∀ b, b < 0 → a ≠ b → (TJ1 a).2.1 ≠ (TJ1 b).2.1 := by decide +kernel
theorem tyJ1_ok : ∀ k, k < 0 → parseFieldDescriptor (TJ1 k).2.2.1 = some (tyJ1 k) := by decide +kernel
abbrev cJ1_charAt_3b067 : ByteArray := prog_20_method_2_code
def yJ1_charAt_3b067 : MethodName := ⟨RJ1, "charAt", "([BI)C"⟩
abbrev cJ1_canEncode_fc78d : ByteArray := prog_20_method_3_code
def yJ1_canEncode_fc78d : MethodName := ⟨RJ1, "canEncode", "(C)Z"⟩
abbrev cJ1_equals_b5fdf : ByteArray := prog_20_method_13_code
def yJ1_equals_b5fdf : MethodName := ⟨RJ1, "equals", "([B[B)Z"⟩
abbrev cJ1_fillNull_b72d1 : ByteArray := prog_20_method_48_code
def yJ1_fillNull_b72d1 : MethodName := ⟨RJ1, "fillNull", "([BII)V"⟩
abbrev cJ1_inflate_0e8fd : ByteArray := prog_20_method_50_code
def yJ1_inflate_0e8fd : MethodName := ⟨RJ1, "inflate", "([BI[BII)V"⟩
def RJ2 : String := "java/lang/StringUTF16"
def TJ2 : u_T := fun k => match k with
  | _ => ("", "", "", false)
def tyJ2 : Nat → FieldType := fun k => match k with
  | _ => .int
abbrev wsJ20 : List Cond := u_ws RJ2 TJ2 0
theorem nmJ2 : ∀ a, a < 0 → ∀ b, b < 0 → a ≠ b → (TJ2 a).2.1 ≠ (TJ2 b).2.1 := by decide +kernel
theorem tyJ2_ok : ∀ k, k < 0 → parseFieldDescriptor (TJ2 k).2.2.1 = some (tyJ2 k) := by decide +kernel
abbrev cJ2_newBytesFor_77867 : ByteArray := prog_21_method_2_code
def yJ2_newBytesFor_77867 : MethodName := ⟨RJ2, "newBytesFor", "(I)[B"⟩
abbrev cJ2_newBytesLength_0f7a4 : ByteArray := prog_21_method_3_code
def yJ2_newBytesLength_0f7a4 : MethodName := ⟨RJ2, "newBytesLength", "(I)I"⟩
abbrev cJ2_putChar_b72d1 : ByteArray := prog_21_method_4_code
def yJ2_putChar_b72d1 : MethodName := ⟨RJ2, "putChar", "([BII)V"⟩
abbrev cJ2_getChar_3b067 : ByteArray := prog_21_method_5_code
def yJ2_getChar_3b067 : MethodName := ⟨RJ2, "getChar", "([BI)C"⟩
abbrev cJ2_length_9d52b : ByteArray := prog_21_method_6_code
def yJ2_length_9d52b : MethodName := ⟨RJ2, "length", "([B)I"⟩
abbrev cJ2_coderFromArrayLen_85cad : ByteArray := prog_21_method_15_code
def yJ2_coderFromArrayLen_85cad : MethodName := ⟨RJ2, "coderFromArrayLen", "([BI)B"⟩
abbrev cJ2_compress_39247 : ByteArray := prog_21_method_17_code
def yJ2_compress_39247 : MethodName := ⟨RJ2, "compress", "([BII)[B"⟩
abbrev cJ2_compress_5af95 : ByteArray := prog_21_method_22_code
def yJ2_compress_5af95 : MethodName := ⟨RJ2, "compress", "([BI[BII)I"⟩
abbrev cJ2_fillNull_b72d1 : ByteArray := prog_21_method_70_code
def yJ2_fillNull_b72d1 : MethodName := ⟨RJ2, "fillNull", "([BII)V"⟩
abbrev cJ2_putCharSB_b72d1 : ByteArray := prog_21_method_71_code
def yJ2_putCharSB_b72d1 : MethodName := ⟨RJ2, "putCharSB", "([BII)V"⟩
abbrev cJ2_getChars_46870 : ByteArray := prog_21_method_77_code
def yJ2_getChars_46870 : MethodName := ⟨RJ2, "getChars", "(III[B)I"⟩
abbrev cJ2_getChars_1ba55 : ByteArray := prog_21_method_78_code
def yJ2_getChars_1ba55 : MethodName := ⟨RJ2, "getChars", "(JII[B)I"⟩
abbrev cJ2_putCharsAt_cd4e5 : ByteArray := prog_21_method_81_code
def yJ2_putCharsAt_cd4e5 : MethodName := ⟨RJ2, "putCharsAt", "([BICCCC)I"⟩
abbrev cJ2_charAt_3b067 : ByteArray := prog_21_method_83_code
def yJ2_charAt_3b067 : MethodName := ⟨RJ2, "charAt", "([BI)C"⟩
abbrev cJ2_reverse_db04f : ByteArray := prog_21_method_84_code
def yJ2_reverse_db04f : MethodName := ⟨RJ2, "reverse", "([BI)V"⟩
abbrev cJ2_reverseAllValidSurrogatePairs_db04f : ByteArray := prog_21_method_85_code
def yJ2_reverseAllValidSurrogatePairs_db04f : MethodName := ⟨RJ2, "reverseAllValidSurrogatePairs", "([BI)V"⟩
abbrev cJ2_inflate_0e8fd : ByteArray := prog_21_method_86_code
def yJ2_inflate_0e8fd : MethodName := ⟨RJ2, "inflate", "([BI[BII)V"⟩
abbrev cJ2_getChars_ba4f3 : ByteArray := prog_21_method_89_code
def yJ2_getChars_ba4f3 : MethodName := ⟨RJ2, "getChars", "(II[B)I"⟩
abbrev cJ2_getChars_11360 : ByteArray := prog_21_method_90_code
def yJ2_getChars_11360 : MethodName := ⟨RJ2, "getChars", "(JI[B)I"⟩
abbrev cJ2_checkIndex_2214a : ByteArray := prog_21_method_91_code
def yJ2_checkIndex_2214a : MethodName := ⟨RJ2, "checkIndex", "(I[B)V"⟩
abbrev cJ2_checkOffset_2214a : ByteArray := prog_21_method_92_code
def yJ2_checkOffset_2214a : MethodName := ⟨RJ2, "checkOffset", "(I[B)V"⟩
abbrev cJ2_checkBoundsBeginEnd_d044e : ByteArray := prog_21_method_93_code
def yJ2_checkBoundsBeginEnd_d044e : MethodName := ⟨RJ2, "checkBoundsBeginEnd", "(II[B)V"⟩
abbrev cJ2_checkBoundsOffCount_d044e : ByteArray := prog_21_method_94_code
def yJ2_checkBoundsOffCount_d044e : MethodName := ⟨RJ2, "checkBoundsOffCount", "(II[B)V"⟩
def RJ10 : String := "java/lang/System"
def TJ10 : u_T := fun k => match k with
  | _ => ("", "", "", false)
def tyJ10 : Nat → FieldType := fun k => match k with
  | _ => .int
abbrev wsJ100 : List Cond := u_ws RJ10 TJ10 0
theorem nmJ10 : ∀ a, a < 0 → ∀ b, b < 0 → a ≠ b → (TJ10 a).2.1 ≠ (TJ10 b).2.1 := by decide +kernel
theorem tyJ10_ok : ∀ k, k < 0 → parseFieldDescriptor (TJ10 k).2.2.1 = some (tyJ10 k) := by decide +kernel
def RJ7 : String := "java/util/Arrays"
def TJ7 : u_T := fun k => match k with
  | _ => ("", "", "", false)
def tyJ7 : Nat → FieldType := fun k => match k with
  | _ => .int
abbrev wsJ70 : List Cond := u_ws RJ7 TJ7 0
theorem nmJ7 : ∀ a, a < 0 → ∀ b, b < 0 → a ≠ b → (TJ7 a).2.1 ≠ (TJ7 b).2.1 := by decide +kernel
theorem tyJ7_ok : ∀ k, k < 0 → parseFieldDescriptor (TJ7 k).2.2.1 = some (tyJ7 k) := by decide +kernel
abbrev cJ7_rangeCheck_23922 : ByteArray := prog_24_method_30_code
def yJ7_rangeCheck_23922 : MethodName := ⟨RJ7, "rangeCheck", "(III)V"⟩
abbrev cJ7_fill_eb02e : ByteArray := prog_24_method_110_code
def yJ7_fill_eb02e : MethodName := ⟨RJ7, "fill", "([BIIB)V"⟩
abbrev cJ7_copyOf_9075b : ByteArray := prog_24_method_121_code
def yJ7_copyOf_9075b : MethodName := ⟨RJ7, "copyOf", "([BI)[B"⟩
abbrev cJ7_checkLength_df160 : ByteArray := prog_24_method_131_code
def yJ7_checkLength_df160 : MethodName := ⟨RJ7, "checkLength", "(II)V"⟩
abbrev cJ7_copyOfRange_39247 : ByteArray := prog_24_method_132_code
def yJ7_copyOfRange_39247 : MethodName := ⟨RJ7, "copyOfRange", "([BII)[B"⟩
abbrev cJ7_copyOfRangeByte_39247 : ByteArray := prog_24_method_133_code
def yJ7_copyOfRangeByte_39247 : MethodName := ⟨RJ7, "copyOfRangeByte", "([BII)[B"⟩
def RJ8 : String := "jdk/internal/util/ArraysSupport"
def TJ8 : u_T := fun k => match k with
  | _ => ("", "", "", false)
def tyJ8 : Nat → FieldType := fun k => match k with
  | _ => .int
abbrev wsJ80 : List Cond := u_ws RJ8 TJ8 0
theorem nmJ8 : ∀ a, a < 0 → ∀ b, b < 0 → a ≠ b → (TJ8 a).2.1 ≠ (TJ8 b).2.1 := by decide +kernel
theorem tyJ8_ok : ∀ k, k < 0 → parseFieldDescriptor (TJ8 k).2.2.1 = some (tyJ8 k) := by decide +kernel
abbrev cJ8_newLength_cabcc : ByteArray := prog_25_method_27_code
def yJ8_newLength_cabcc : MethodName := ⟨RJ8, "newLength", "(III)I"⟩
abbrev cJ8_hugeLength_7cf53 : ByteArray := prog_25_method_28_code
def yJ8_hugeLength_7cf53 : MethodName := ⟨RJ8, "hugeLength", "(II)I"⟩
def RJ3 : String := "jdk/internal/util/Preconditions"
def TJ3 : u_T := fun k => match k with
  | _ => ("", "", "", false)
def tyJ3 : Nat → FieldType := fun k => match k with
  | _ => .int
abbrev wsJ30 : List Cond := u_ws RJ3 TJ3 0
theorem nmJ3 : ∀ a, a < 0 → ∀ b, b < 0 → a ≠ b → (TJ3 a).2.1 ≠ (TJ3 b).2.1 := by decide +kernel
theorem tyJ3_ok : ∀ k, k < 0 → parseFieldDescriptor (TJ3 k).2.2.1 = some (tyJ3 k) := by decide +kernel
abbrev cJ3_checkIndex_8e157 : ByteArray := prog_26_method_11_code
def yJ3_checkIndex_8e157 : MethodName := ⟨RJ3, "checkIndex", "(IILjava/util/function/BiFunction;)I"⟩
abbrev cJ3_checkFromToIndex_8c36e : ByteArray := prog_26_method_12_code
def yJ3_checkFromToIndex_8c36e : MethodName := ⟨RJ3, "checkFromToIndex", "(IIILjava/util/function/BiFunction;)I"⟩
abbrev cJ3_checkFromIndexSize_8c36e : ByteArray := prog_26_method_13_code
def yJ3_checkFromIndexSize_8c36e : MethodName := ⟨RJ3, "checkFromIndexSize", "(IIILjava/util/function/BiFunction;)I"⟩
def RL : String := "MonthyearsLaw"
abbrev cL_leaf : ByteArray := method_2_code
def yL_leaf : MethodName := ⟨RL, "leaf", "(LMonthyears;IIILMonthyearsLaw$Out;)I"⟩
abbrev cL_leafRound : ByteArray := method_3_code
def yL_leafRound : MethodName := ⟨RL, "leafRound", "(LMonthyears;IIILMonthyearsLaw$Out;)I"⟩
abbrev cL_months : ByteArray := method_4_code
def yL_months : MethodName := ⟨RL, "months", "(LMonthyears;IIZLMonthyearsLaw$Out;)I"⟩
abbrev cL_years : ByteArray := method_5_code
def yL_years : MethodName := ⟨RL, "years", "(LMonthyears;IIZLMonthyearsLaw$Out;)I"⟩
abbrev cL_units : ByteArray := method_6_code
def yL_units : MethodName := ⟨RL, "units", "(LMonthyears;IIIZLMonthyearsLaw$Out;)I"⟩
abbrev cL_both : ByteArray := method_7_code
def yL_both : MethodName := ⟨RL, "both", "(LMonthyears;IIIZLMonthyearsLaw$Out;)I"⟩
abbrev cL_leafYear : ByteArray := method_8_code
def yL_leafYear : MethodName := ⟨RL, "leafYear", "(LMonthyears;IILMonthyearsLaw$Out;)I"⟩
abbrev cL_leafMonth : ByteArray := method_9_code
def yL_leafMonth : MethodName := ⟨RL, "leafMonth", "(LMonthyears;IILMonthyearsLaw$Out;)I"⟩
abbrev cL_leafWith : ByteArray := method_10_code
def yL_leafWith : MethodName := ⟨RL, "leafWith", "(LMonthyears;IIILMonthyearsLaw$Out;)I"⟩
abbrev cL_leafOf : ByteArray := method_11_code
def yL_leafOf : MethodName := ⟨RL, "leafOf", "(LMonthyears;IIILMonthyearsLaw$Out;)I"⟩
abbrev cL_leafOfRound : ByteArray := method_12_code
def yL_leafOfRound : MethodName := ⟨RL, "leafOfRound", "(LMonthyears;IIILMonthyearsLaw$Out;)I"⟩
abbrev cL_leafOfDay : ByteArray := method_13_code
def yL_leafOfDay : MethodName := ⟨RL, "leafOfDay", "(LMonthyears;IILMonthyearsLaw$Out;)I"⟩
abbrev cL_leafLike : ByteArray := method_14_code
def yL_leafLike : MethodName := ⟨RL, "leafLike", "(LMonthyears;IILMonthyearsLaw$Out;)I"⟩
abbrev cL_year : ByteArray := method_15_code
def yL_year : MethodName := ⟨RL, "year", "(LMonthyears;IILMonthyearsLaw$Out;)I"⟩
abbrev cL_later : ByteArray := method_16_code
def yL_later : MethodName := ⟨RL, "later", "(LMonthyears;IIZLMonthyearsLaw$Out;)I"⟩
abbrev cL_yearUnits : ByteArray := method_17_code
def yL_yearUnits : MethodName := ⟨RL, "yearUnits", "(LMonthyears;IIIZLMonthyearsLaw$Out;)I"⟩
abbrev cL_yearWith : ByteArray := method_18_code
def yL_yearWith : MethodName := ⟨RL, "yearWith", "(LMonthyears;IIILMonthyearsLaw$Out;)I"⟩
abbrev cL_yearOf : ByteArray := method_19_code
def yL_yearOf : MethodName := ⟨RL, "yearOf", "(LMonthyears;IZILMonthyearsLaw$Out;)I"⟩
abbrev cL_yearLike : ByteArray := method_20_code
def yL_yearLike : MethodName := ⟨RL, "yearLike", "(LMonthyears;IILMonthyearsLaw$Out;)I"⟩
abbrev cL_feast : ByteArray := method_21_code
def yL_feast : MethodName := ⟨RL, "feast", "(LMonthyears;IIILMonthyearsLaw$Out;)I"⟩
abbrev cL_feastRound : ByteArray := method_22_code
def yL_feastRound : MethodName := ⟨RL, "feastRound", "(LMonthyears;IIILMonthyearsLaw$Out;)I"⟩
abbrev cL_feastMonth : ByteArray := method_23_code
def yL_feastMonth : MethodName := ⟨RL, "feastMonth", "(LMonthyears;IIZLMonthyearsLaw$Out;)I"⟩
abbrev cL_feastDay : ByteArray := method_24_code
def yL_feastDay : MethodName := ⟨RL, "feastDay", "(LMonthyears;IIZLMonthyearsLaw$Out;)I"⟩
abbrev cL_feastOf : ByteArray := method_25_code
def yL_feastOf : MethodName := ⟨RL, "feastOf", "(LMonthyears;IILMonthyearsLaw$Out;)I"⟩
abbrev cL_feastLike : ByteArray := method_26_code
def yL_feastLike : MethodName := ⟨RL, "feastLike", "(LMonthyears;IILMonthyearsLaw$Out;)I"⟩
abbrev cL_dayAt : ByteArray := method_27_code
def yL_dayAt : MethodName := ⟨RL, "dayAt", "(LMonthyears;IIILMonthyearsLaw$Out;)I"⟩
abbrev cL_dayEnd : ByteArray := method_28_code
def yL_dayEnd : MethodName := ⟨RL, "dayEnd", "(LMonthyears;IILMonthyearsLaw$Out;)I"⟩
abbrev cL_dayInYear : ByteArray := method_29_code
def yL_dayInYear : MethodName := ⟨RL, "dayInYear", "(LMonthyears;IIILMonthyearsLaw$Out;)I"⟩
abbrev cL_dayOfFeast : ByteArray := method_30_code
def yL_dayOfFeast : MethodName := ⟨RL, "dayOfFeast", "(LMonthyears;IIILMonthyearsLaw$Out;)I"⟩
abbrev cL_dayOfYear : ByteArray := method_31_code
def yL_dayOfYear : MethodName := ⟨RL, "dayOfYear", "(LMonthyears;IIILMonthyearsLaw$Out;)I"⟩
abbrev cL_ofLeaf : ByteArray := method_32_code
def yL_ofLeaf : MethodName := ⟨RL, "ofLeaf", "(LMonthyears;IILMonthyearsLaw$Out;)I"⟩
abbrev cL_count : ByteArray := method_33_code
def yL_count : MethodName := ⟨RL, "count", "(LMonthyears;ILMonthyearsLaw$Out;)I"⟩
abbrev cL_hasDay : ByteArray := method_34_code
def yL_hasDay : MethodName := ⟨RL, "hasDay", "(LMonthyears;IILMonthyearsLaw$Out;)I"⟩
abbrev cL_leafOrder : ByteArray := method_35_code
def yL_leafOrder : MethodName := ⟨RL, "leafOrder", "(LMonthyears;IIILMonthyearsLaw$Out;)I"⟩
abbrev cL_isLeaf : ByteArray := method_36_code
def yL_isLeaf : MethodName := ⟨RL, "isLeaf", "(LMonthyears;IIILMonthyearsLaw$Out;)I"⟩
abbrev cL_leafTo : ByteArray := method_37_code
def yL_leafTo : MethodName := ⟨RL, "leafTo", "(LMonthyears;IIIZLMonthyearsLaw$Out;)I"⟩
abbrev cL_ofYear : ByteArray := method_38_code
def yL_ofYear : MethodName := ⟨RL, "ofYear", "(LMonthyears;IILMonthyearsLaw$Out;)I"⟩
abbrev cL_hasFeast : ByteArray := method_39_code
def yL_hasFeast : MethodName := ⟨RL, "hasFeast", "(LMonthyears;IIZLMonthyearsLaw$Out;)I"⟩
abbrev cL_yearOrder : ByteArray := method_40_code
def yL_yearOrder : MethodName := ⟨RL, "yearOrder", "(LMonthyears;IIILMonthyearsLaw$Out;)I"⟩
abbrev cL_isYear : ByteArray := method_41_code
def yL_isYear : MethodName := ⟨RL, "isYear", "(LMonthyears;IIILMonthyearsLaw$Out;)I"⟩
abbrev cL_yearTo : ByteArray := method_42_code
def yL_yearTo : MethodName := ⟨RL, "yearTo", "(LMonthyears;IIIZLMonthyearsLaw$Out;)I"⟩
abbrev cL_ofFeast : ByteArray := method_43_code
def yL_ofFeast : MethodName := ⟨RL, "ofFeast", "(LMonthyears;IILMonthyearsLaw$Out;)I"⟩
abbrev cL_isInYear : ByteArray := method_44_code
def yL_isInYear : MethodName := ⟨RL, "isInYear", "(LMonthyears;IILMonthyearsLaw$Out;)I"⟩
abbrev cL_feastOrder : ByteArray := method_45_code
def yL_feastOrder : MethodName := ⟨RL, "feastOrder", "(LMonthyears;IIILMonthyearsLaw$Out;)I"⟩
abbrev cL_isFeast : ByteArray := method_46_code
def yL_isFeast : MethodName := ⟨RL, "isFeast", "(LMonthyears;IIILMonthyearsLaw$Out;)I"⟩
abbrev cL_ofDay : ByteArray := method_47_code
def yL_ofDay : MethodName := ⟨RL, "ofDay", "(LMonthyears;IILMonthyearsLaw$Out;)I"⟩
abbrev cL_number : ByteArray := method_48_code
def yL_number : MethodName := ⟨RL, "number", "(LMonthyears;ILMonthyearsLaw$Out;)I"⟩
abbrev cL_dayOrder : ByteArray := method_49_code
def yL_dayOrder : MethodName := ⟨RL, "dayOrder", "(LMonthyears;IIILMonthyearsLaw$Out;)I"⟩
abbrev cL_knows : ByteArray := method_50_code
def yL_knows : MethodName := ⟨RL, "knows", "(LMonthyears;IILMonthyearsLaw$Out;)I"⟩
abbrev cL_house : ByteArray := method_51_code
def yL_house : MethodName := ⟨RL, "house", "(LMonthyears;ILMonthyearsLaw$Out;)I"⟩
abbrev cL_law : ByteArray := code
def yL_law : MethodName := ⟨RL, "law", "([I)Z"⟩
abbrev vwCl : List vw_C := [(RJ0, TJ0, 4), (RJ4, TJ4, 4), (RJx00060, TJx00060, 6), (RJx7c733, TJx7c733, 6), (RX1, TX1, 8), (RX2, TX2, 2), (RX3, TX3, 6)]
def kb (cc : ByteArray) (p b : Nat) : Prop := (Reader.u1 : Decoder Nat) cc p = .ok (b, p + 1)
theorem kbind {α β : Type} {x : Decoder α} {f : α → Decoder β} {cc : ByteArray} {p q : Nat} {v : α} (h : x cc p = .ok (v, q)) : (x >>= f) cc p = f v cc q := by
  show Except.bind (x cc p) (fun a => f a.1 cc a.2) = _
  rw [h]
  rfl
theorem kdec {cc : ByteArray} {pc n k : Nat} {i : Instr} (h : Decoder.instr pc cc pc = .ok (i, n)) (hk : n - pc = k) : decode cc pc = .ok (i, k) := by
  show Except.bind (Decoder.instr pc cc pc) (fun a => Except.ok (a.1, a.2 - pc)) = _
  rw [h]
  show Except.ok (i, n - pc) = _
  rw [hk]
theorem ku2 {cc : ByteArray} {p a b n : Nat} (h1 : kb cc p a) (h2 : kb cc (p + 1) b) (hn : a * 256 + b = n) : (Reader.u2 : Decoder Nat) cc p = .ok (n, p + 2) := by
  subst hn
  exact (kbind h1).trans ((kbind h2).trans rfl)
theorem kmap {α β : Type} {x : Decoder α} {f : α → β} {cc : ByteArray} {p q : Nat} {v : α} (h : x cc p = .ok (v, q)) : (f <$> x) cc p = .ok (f v, q) := (kbind (f := fun a => pure (f a)) h).trans rfl
theorem ks1 {cc : ByteArray} {p a : Nat} {n : Int} (h1 : kb cc p a) (hn : Reader.signed 8 a = n) : (Reader.s1 : Decoder Int) cc p = .ok (n, p + 1) := by
  subst hn
  exact kmap h1
theorem ks2 {cc : ByteArray} {p a b : Nat} {n : Int} (h1 : kb cc p a) (h2 : kb cc (p + 1) b) (hn : Reader.signed 16 (a * 256 + b) = n) : (Reader.s2 : Decoder Int) cc p = .ok (n, p + 2) := by
  subst hn
  exact kmap (ku2 h1 h2 rfl)
theorem kb_of {cc : ByteArray} {p b : Nat} (h : (cc.data.toList.map UInt8.toNat)[p]? = some b) : kb cc p b := by
  rw [List.getElem?_map] at h
  obtain ⟨x, hx, hb⟩ := Option.map_eq_some_iff.mp h
  have hlt : p < cc.size := by
    have h9 := (List.getElem?_eq_some_iff.mp hx).1
    exact h9
  have hx2 : cc[p] = x := by
    have h9 := (List.getElem?_eq_some_iff.mp hx).2
    exact h9
  have e : (Reader.u1 : Decoder Nat) cc p = (dite (p < cc.size) (fun h => (do MonadStateOf.set (p + 1); pure cc[p].toNat : Decoder Nat)) (fun _ => MonadExcept.throw (HasTruncated.truncated p))) cc p := rfl
  show (Reader.u1 : Decoder Nat) cc p = _
  rw [e, dif_pos hlt]
  show Except.ok (cc[p].toNat, p + 1) = _
  rw [hx2, hb]
theorem kstep {l C R1 R2 : List Nat} {a b : Nat} (h : ∀ i : Nat, l[a + i]? = R1[i]?) (e : R1 = C ++ R2) (hb : b = a + C.length) (i : Nat) : l[b + i]? = R2[i]? := by
  rw [hb, Nat.add_assoc, h, e, List.getElem?_append_right (Nat.le_add_right _ _), Nat.add_sub_cancel_left]
theorem kin {cc : ByteArray} {C R1 R2 : List Nat} {a p b : Nat} (h : ∀ i : Nat, (cc.data.toList.map UInt8.toNat)[a + i]? = R1[i]?) (e : R1 = C ++ R2) (hp : Nat.ble a p = true) (hC : C[p - a]? = some b) : kb cc p b := by
  have h1 : a ≤ p := Nat.le_of_ble_eq_true hp
  refine kb_of ?_
  rw [show p = a + (p - a) by omega, h, e, List.getElem?_append_left (List.getElem?_eq_some_iff.mp hC).1, hC]
theorem kin0 {cc : ByteArray} {C : List Nat} {p b : Nat} (h : cc.data.toList.map UInt8.toNat = C) (hC : C[p]? = some b) : kb cc p b := kb_of (by rw [h]; exact hC)
theorem dz_30 {cc : ByteArray} {pc : Nat} (h0 : kb cc pc 30) : decode cc pc = .ok (.lload_n 0, 1) := by
  refine kdec (n := pc + 1) ((kbind h0).trans ?_) (by omega)
  rfl
theorem dz_20 {cc : ByteArray} {pc a b : Nat} {v : Nat} (h0 : kb cc pc 20) (h1 : kb cc (pc + 1) a) (h2 : kb cc (pc + 2) b) (hn : a * 256 + b = v) : decode cc pc = .ok (.ldc2_w v, 3) := by
  refine kdec (n := pc + 3) ((kbind h0).trans ?_) (by omega)
  exact (kbind (ku2 h1 h2 hn)).trans rfl
theorem dz_113 {cc : ByteArray} {pc : Nat} (h0 : kb cc pc 113) : decode cc pc = .ok (.lrem, 1) := by
  refine kdec (n := pc + 1) ((kbind h0).trans ?_) (by omega)
  rfl
theorem dz_9 {cc : ByteArray} {pc : Nat} (h0 : kb cc pc 9) : decode cc pc = .ok (.lconst 0, 1) := by
  refine kdec (n := pc + 1) ((kbind h0).trans ?_) (by omega)
  rfl
theorem dz_148 {cc : ByteArray} {pc : Nat} (h0 : kb cc pc 148) : decode cc pc = .ok (.lcmp, 1) := by
  refine kdec (n := pc + 1) ((kbind h0).trans ?_) (by omega)
  rfl
theorem dz_153 {cc : ByteArray} {pc a b : Nat} {v : Int} (h0 : kb cc pc 153) (h1 : kb cc (pc + 1) a) (h2 : kb cc (pc + 2) b) (hn : Reader.signed 16 (a * 256 + b) = v) : decode cc pc = .ok (.ifCond .eq v, 3) := by
  refine kdec (n := pc + 3) ((kbind h0).trans ?_) (by omega)
  exact (kbind (ks2 h1 h2 hn)).trans rfl
theorem dz_154 {cc : ByteArray} {pc a b : Nat} {v : Int} (h0 : kb cc pc 154) (h1 : kb cc (pc + 1) a) (h2 : kb cc (pc + 2) b) (hn : Reader.signed 16 (a * 256 + b) = v) : decode cc pc = .ok (.ifCond .ne v, 3) := by
  refine kdec (n := pc + 3) ((kbind h0).trans ?_) (by omega)
  exact (kbind (ks2 h1 h2 hn)).trans rfl
theorem dz_4 {cc : ByteArray} {pc : Nat} (h0 : kb cc pc 4) : decode cc pc = .ok (.iconst 1, 1) := by
  refine kdec (n := pc + 1) ((kbind h0).trans ?_) (by omega)
  rfl
theorem dz_167 {cc : ByteArray} {pc a b : Nat} {v : Int} (h0 : kb cc pc 167) (h1 : kb cc (pc + 1) a) (h2 : kb cc (pc + 2) b) (hn : Reader.signed 16 (a * 256 + b) = v) : decode cc pc = .ok (.goto v, 3) := by
  refine kdec (n := pc + 3) ((kbind h0).trans ?_) (by omega)
  exact (kbind (ks2 h1 h2 hn)).trans rfl
theorem dz_3 {cc : ByteArray} {pc : Nat} (h0 : kb cc pc 3) : decode cc pc = .ok (.iconst 0, 1) := by
  refine kdec (n := pc + 1) ((kbind h0).trans ?_) (by omega)
  rfl
theorem dz_172 {cc : ByteArray} {pc : Nat} (h0 : kb cc pc 172) : decode cc pc = .ok (.ireturn, 1) := by
  refine kdec (n := pc + 1) ((kbind h0).trans ?_) (by omega)
  rfl
theorem dz_184 {cc : ByteArray} {pc a b : Nat} {v : Nat} (h0 : kb cc pc 184) (h1 : kb cc (pc + 1) a) (h2 : kb cc (pc + 2) b) (hn : a * 256 + b = v) : decode cc pc = .ok (.invokestatic v, 3) := by
  refine kdec (n := pc + 3) ((kbind h0).trans ?_) (by omega)
  exact (kbind (ku2 h1 h2 hn)).trans rfl
theorem dz_17 {cc : ByteArray} {pc a b : Nat} {v : Int} (h0 : kb cc pc 17) (h1 : kb cc (pc + 1) a) (h2 : kb cc (pc + 2) b) (hn : Reader.signed 16 (a * 256 + b) = v) : decode cc pc = .ok (.sipush v, 3) := by
  refine kdec (n := pc + 3) ((kbind h0).trans ?_) (by omega)
  exact (kbind (ks2 h1 h2 hn)).trans rfl
theorem dz_26 {cc : ByteArray} {pc : Nat} (h0 : kb cc pc 26) : decode cc pc = .ok (.iload_n 0, 1) := by
  refine kdec (n := pc + 1) ((kbind h0).trans ?_) (by omega)
  rfl
theorem dz_158 {cc : ByteArray} {pc a b : Nat} {v : Int} (h0 : kb cc pc 158) (h1 : kb cc (pc + 1) a) (h2 : kb cc (pc + 2) b) (hn : Reader.signed 16 (a * 256 + b) = v) : decode cc pc = .ok (.ifCond .le v, 3) := by
  refine kdec (n := pc + 3) ((kbind h0).trans ?_) (by omega)
  exact (kbind (ks2 h1 h2 hn)).trans rfl
theorem dz_100 {cc : ByteArray} {pc : Nat} (h0 : kb cc pc 100) : decode cc pc = .ok (.isub, 1) := by
  refine kdec (n := pc + 1) ((kbind h0).trans ?_) (by omega)
  rfl
theorem dz_27 {cc : ByteArray} {pc : Nat} (h0 : kb cc pc 27) : decode cc pc = .ok (.iload_n 1, 1) := by
  refine kdec (n := pc + 1) ((kbind h0).trans ?_) (by omega)
  rfl
theorem dz_160 {cc : ByteArray} {pc a b : Nat} {v : Int} (h0 : kb cc pc 160) (h1 : kb cc (pc + 1) a) (h2 : kb cc (pc + 2) b) (hn : Reader.signed 16 (a * 256 + b) = v) : decode cc pc = .ok (.if_icmp .ne v, 3) := by
  refine kdec (n := pc + 3) ((kbind h0).trans ?_) (by omega)
  exact (kbind (ks2 h1 h2 hn)).trans rfl
theorem dz_28 {cc : ByteArray} {pc : Nat} (h0 : kb cc pc 28) : decode cc pc = .ok (.iload_n 2, 1) := by
  refine kdec (n := pc + 1) ((kbind h0).trans ?_) (by omega)
  rfl
theorem dz_16 {cc : ByteArray} {pc a : Nat} {v : Int} (h0 : kb cc pc 16) (h1 : kb cc (pc + 1) a) (hn : Reader.signed 8 a = v) : decode cc pc = .ok (.bipush v, 2) := by
  refine kdec (n := pc + 2) ((kbind h0).trans ?_) (by omega)
  exact (kbind (ks1 h1 hn)).trans rfl
theorem dz_96 {cc : ByteArray} {pc : Nat} (h0 : kb cc pc 96) : decode cc pc = .ok (.iadd, 1) := by
  refine kdec (n := pc + 1) ((kbind h0).trans ?_) (by omega)
  rfl
theorem dz_5 {cc : ByteArray} {pc : Nat} (h0 : kb cc pc 5) : decode cc pc = .ok (.iconst 2, 1) := by
  refine kdec (n := pc + 1) ((kbind h0).trans ?_) (by omega)
  rfl
theorem dz_163 {cc : ByteArray} {pc a b : Nat} {v : Int} (h0 : kb cc pc 163) (h1 : kb cc (pc + 1) a) (h2 : kb cc (pc + 2) b) (hn : Reader.signed 16 (a * 256 + b) = v) : decode cc pc = .ok (.if_icmp .gt v, 3) := by
  refine kdec (n := pc + 3) ((kbind h0).trans ?_) (by omega)
  exact (kbind (ks2 h1 h2 hn)).trans rfl
theorem dz_133 {cc : ByteArray} {pc : Nat} (h0 : kb cc pc 133) : decode cc pc = .ok (.i2l, 1) := by
  refine kdec (n := pc + 1) ((kbind h0).trans ?_) (by omega)
  rfl
theorem dz_105 {cc : ByteArray} {pc : Nat} (h0 : kb cc pc 105) : decode cc pc = .ok (.lmul, 1) := by
  refine kdec (n := pc + 1) ((kbind h0).trans ?_) (by omega)
  rfl
theorem dz_97 {cc : ByteArray} {pc : Nat} (h0 : kb cc pc 97) : decode cc pc = .ok (.ladd, 1) := by
  refine kdec (n := pc + 1) ((kbind h0).trans ?_) (by omega)
  rfl
theorem dz_10 {cc : ByteArray} {pc : Nat} (h0 : kb cc pc 10) : decode cc pc = .ok (.lconst 1, 1) := by
  refine kdec (n := pc + 1) ((kbind h0).trans ?_) (by omega)
  rfl
theorem dz_101 {cc : ByteArray} {pc : Nat} (h0 : kb cc pc 101) : decode cc pc = .ok (.lsub, 1) := by
  refine kdec (n := pc + 1) ((kbind h0).trans ?_) (by omega)
  rfl
theorem dz_173 {cc : ByteArray} {pc : Nat} (h0 : kb cc pc 173) : decode cc pc = .ok (.lreturn, 1) := by
  refine kdec (n := pc + 1) ((kbind h0).trans ?_) (by omega)
  rfl
theorem dz_136 {cc : ByteArray} {pc : Nat} (h0 : kb cc pc 136) : decode cc pc = .ok (.l2i, 1) := by
  refine kdec (n := pc + 1) ((kbind h0).trans ?_) (by omega)
  rfl
theorem dz_161 {cc : ByteArray} {pc a b : Nat} {v : Int} (h0 : kb cc pc 161) (h1 : kb cc (pc + 1) a) (h2 : kb cc (pc + 2) b) (hn : Reader.signed 16 (a * 256 + b) = v) : decode cc pc = .ok (.if_icmp .lt v, 3) := by
  refine kdec (n := pc + 3) ((kbind h0).trans ?_) (by omega)
  exact (kbind (ks2 h1 h2 hn)).trans rfl
theorem dz_61 {cc : ByteArray} {pc : Nat} (h0 : kb cc pc 61) : decode cc pc = .ok (.istore_n 2, 1) := by
  refine kdec (n := pc + 1) ((kbind h0).trans ?_) (by omega)
  rfl
theorem dz_62 {cc : ByteArray} {pc : Nat} (h0 : kb cc pc 62) : decode cc pc = .ok (.istore_n 3, 1) := by
  refine kdec (n := pc + 1) ((kbind h0).trans ?_) (by omega)
  rfl
theorem dz_29 {cc : ByteArray} {pc : Nat} (h0 : kb cc pc 29) : decode cc pc = .ok (.iload_n 3, 1) := by
  refine kdec (n := pc + 1) ((kbind h0).trans ?_) (by omega)
  rfl
theorem dz_162 {cc : ByteArray} {pc a b : Nat} {v : Int} (h0 : kb cc pc 162) (h1 : kb cc (pc + 1) a) (h2 : kb cc (pc + 2) b) (hn : Reader.signed 16 (a * 256 + b) = v) : decode cc pc = .ok (.if_icmp .ge v, 3) := by
  refine kdec (n := pc + 3) ((kbind h0).trans ?_) (by omega)
  exact (kbind (ks2 h1 h2 hn)).trans rfl
theorem dz_132 {cc : ByteArray} {pc a b : Nat} {v : Int} (h0 : kb cc pc 132) (h1 : kb cc (pc + 1) a) (h2 : kb cc (pc + 2) b) (hn : Reader.signed 8 b = v) : decode cc pc = .ok (.iinc a v, 3) := by
  refine kdec (n := pc + 3) ((kbind h0).trans ?_) (by omega)
  exact (kbind h1).trans ((kbind (ks1 h2 hn)).trans rfl)
theorem dz_164 {cc : ByteArray} {pc a b : Nat} {v : Int} (h0 : kb cc pc 164) (h1 : kb cc (pc + 1) a) (h2 : kb cc (pc + 2) b) (hn : Reader.signed 16 (a * 256 + b) = v) : decode cc pc = .ok (.if_icmp .le v, 3) := by
  refine kdec (n := pc + 3) ((kbind h0).trans ?_) (by omega)
  exact (kbind (ks2 h1 h2 hn)).trans rfl
theorem dz_66 {cc : ByteArray} {pc : Nat} (h0 : kb cc pc 66) : decode cc pc = .ok (.lstore_n 3, 1) := by
  refine kdec (n := pc + 1) ((kbind h0).trans ?_) (by omega)
  rfl
theorem dz_33 {cc : ByteArray} {pc : Nat} (h0 : kb cc pc 33) : decode cc pc = .ok (.lload_n 3, 1) := by
  refine kdec (n := pc + 1) ((kbind h0).trans ?_) (by omega)
  rfl
theorem dz_55 {cc : ByteArray} {pc a : Nat} (h0 : kb cc pc 55) (h1 : kb cc (pc + 1) a) : decode cc pc = .ok (.lstore a, 2) := by
  refine kdec (n := pc + 2) ((kbind h0).trans ?_) (by omega)
  exact (kbind h1).trans rfl
theorem dz_22 {cc : ByteArray} {pc a : Nat} (h0 : kb cc pc 22) (h1 : kb cc (pc + 1) a) : decode cc pc = .ok (.lload a, 2) := by
  refine kdec (n := pc + 2) ((kbind h0).trans ?_) (by omega)
  exact (kbind h1).trans rfl
theorem dz_54 {cc : ByteArray} {pc a : Nat} (h0 : kb cc pc 54) (h1 : kb cc (pc + 1) a) : decode cc pc = .ok (.istore a, 2) := by
  refine kdec (n := pc + 2) ((kbind h0).trans ?_) (by omega)
  exact (kbind h1).trans rfl
theorem dz_21 {cc : ByteArray} {pc a : Nat} (h0 : kb cc pc 21) (h1 : kb cc (pc + 1) a) : decode cc pc = .ok (.iload a, 2) := by
  refine kdec (n := pc + 2) ((kbind h0).trans ?_) (by omega)
  exact (kbind h1).trans rfl
theorem dz_156 {cc : ByteArray} {pc a b : Nat} {v : Int} (h0 : kb cc pc 156) (h1 : kb cc (pc + 1) a) (h2 : kb cc (pc + 2) b) (hn : Reader.signed 16 (a * 256 + b) = v) : decode cc pc = .ok (.ifCond .ge v, 3) := by
  refine kdec (n := pc + 3) ((kbind h0).trans ?_) (by omega)
  exact (kbind (ks2 h1 h2 hn)).trans rfl
theorem dz_109 {cc : ByteArray} {pc : Nat} (h0 : kb cc pc 109) : decode cc pc = .ok (.ldiv, 1) := by
  refine kdec (n := pc + 1) ((kbind h0).trans ?_) (by omega)
  rfl
theorem dz_42 {cc : ByteArray} {pc : Nat} (h0 : kb cc pc 42) : decode cc pc = .ok (.aload_n 0, 1) := by
  refine kdec (n := pc + 1) ((kbind h0).trans ?_) (by omega)
  rfl
theorem dz_183 {cc : ByteArray} {pc a b : Nat} {v : Nat} (h0 : kb cc pc 183) (h1 : kb cc (pc + 1) a) (h2 : kb cc (pc + 2) b) (hn : a * 256 + b = v) : decode cc pc = .ok (.invokespecial v, 3) := by
  refine kdec (n := pc + 3) ((kbind h0).trans ?_) (by omega)
  exact (kbind (ku2 h1 h2 hn)).trans rfl
theorem dz_7 {cc : ByteArray} {pc : Nat} (h0 : kb cc pc 7) : decode cc pc = .ok (.iconst 4, 1) := by
  refine kdec (n := pc + 1) ((kbind h0).trans ?_) (by omega)
  rfl
theorem dz_181 {cc : ByteArray} {pc a b : Nat} {v : Nat} (h0 : kb cc pc 181) (h1 : kb cc (pc + 1) a) (h2 : kb cc (pc + 2) b) (hn : a * 256 + b = v) : decode cc pc = .ok (.putfield v, 3) := by
  refine kdec (n := pc + 3) ((kbind h0).trans ?_) (by omega)
  exact (kbind (ku2 h1 h2 hn)).trans rfl
theorem dz_187 {cc : ByteArray} {pc a b : Nat} {v : Nat} (h0 : kb cc pc 187) (h1 : kb cc (pc + 1) a) (h2 : kb cc (pc + 2) b) (hn : a * 256 + b = v) : decode cc pc = .ok (.new v, 3) := by
  refine kdec (n := pc + 3) ((kbind h0).trans ?_) (by omega)
  exact (kbind (ku2 h1 h2 hn)).trans rfl
theorem dz_89 {cc : ByteArray} {pc : Nat} (h0 : kb cc pc 89) : decode cc pc = .ok (.dup, 1) := by
  refine kdec (n := pc + 1) ((kbind h0).trans ?_) (by omega)
  rfl
theorem dz_60 {cc : ByteArray} {pc : Nat} (h0 : kb cc pc 60) : decode cc pc = .ok (.istore_n 1, 1) := by
  refine kdec (n := pc + 1) ((kbind h0).trans ?_) (by omega)
  rfl
theorem dz_180 {cc : ByteArray} {pc a b : Nat} {v : Nat} (h0 : kb cc pc 180) (h1 : kb cc (pc + 1) a) (h2 : kb cc (pc + 2) b) (hn : a * 256 + b = v) : decode cc pc = .ok (.getfield v, 3) := by
  refine kdec (n := pc + 3) ((kbind h0).trans ?_) (by omega)
  exact (kbind (ku2 h1 h2 hn)).trans rfl
theorem dz_79 {cc : ByteArray} {pc : Nat} (h0 : kb cc pc 79) : decode cc pc = .ok (.iastore, 1) := by
  refine kdec (n := pc + 1) ((kbind h0).trans ?_) (by omega)
  rfl
theorem dz_177 {cc : ByteArray} {pc : Nat} (h0 : kb cc pc 177) : decode cc pc = .ok (.return_, 1) := by
  refine kdec (n := pc + 1) ((kbind h0).trans ?_) (by omega)
  rfl
theorem dz_182 {cc : ByteArray} {pc a b : Nat} {v : Nat} (h0 : kb cc pc 182) (h1 : kb cc (pc + 1) a) (h2 : kb cc (pc + 2) b) (hn : a * 256 + b = v) : decode cc pc = .ok (.invokevirtual v, 3) := by
  refine kdec (n := pc + 3) ((kbind h0).trans ?_) (by omega)
  exact (kbind (ku2 h1 h2 hn)).trans rfl
theorem dz_87 {cc : ByteArray} {pc : Nat} (h0 : kb cc pc 87) : decode cc pc = .ok (.pop, 1) := by
  refine kdec (n := pc + 1) ((kbind h0).trans ?_) (by omega)
  rfl
theorem dz_18 {cc : ByteArray} {pc a : Nat} (h0 : kb cc pc 18) (h1 : kb cc (pc + 1) a) : decode cc pc = .ok (.ldc a, 2) := by
  refine kdec (n := pc + 2) ((kbind h0).trans ?_) (by omega)
  exact (kbind h1).trans rfl
theorem dz_47 {cc : ByteArray} {pc : Nat} (h0 : kb cc pc 47) : decode cc pc = .ok (.laload, 1) := by
  refine kdec (n := pc + 1) ((kbind h0).trans ?_) (by omega)
  rfl
theorem dz_46 {cc : ByteArray} {pc : Nat} (h0 : kb cc pc 46) : decode cc pc = .ok (.iaload, 1) := by
  refine kdec (n := pc + 1) ((kbind h0).trans ?_) (by omega)
  rfl
theorem dz_80 {cc : ByteArray} {pc : Nat} (h0 : kb cc pc 80) : decode cc pc = .ok (.lastore, 1) := by
  refine kdec (n := pc + 1) ((kbind h0).trans ?_) (by omega)
  rfl
theorem dz_176 {cc : ByteArray} {pc : Nat} (h0 : kb cc pc 176) : decode cc pc = .ok (.areturn, 1) := by
  refine kdec (n := pc + 1) ((kbind h0).trans ?_) (by omega)
  rfl
theorem dz_8 {cc : ByteArray} {pc : Nat} (h0 : kb cc pc 8) : decode cc pc = .ok (.iconst 5, 1) := by
  refine kdec (n := pc + 1) ((kbind h0).trans ?_) (by omega)
  rfl
theorem dz_6 {cc : ByteArray} {pc : Nat} (h0 : kb cc pc 6) : decode cc pc = .ok (.iconst 3, 1) := by
  refine kdec (n := pc + 1) ((kbind h0).trans ?_) (by omega)
  rfl
theorem dz_64 {cc : ByteArray} {pc : Nat} (h0 : kb cc pc 64) : decode cc pc = .ok (.lstore_n 1, 1) := by
  refine kdec (n := pc + 1) ((kbind h0).trans ?_) (by omega)
  rfl
theorem dz_31 {cc : ByteArray} {pc : Nat} (h0 : kb cc pc 31) : decode cc pc = .ok (.lload_n 1, 1) := by
  refine kdec (n := pc + 1) ((kbind h0).trans ?_) (by omega)
  rfl
theorem dz_155 {cc : ByteArray} {pc a b : Nat} {v : Int} (h0 : kb cc pc 155) (h1 : kb cc (pc + 1) a) (h2 : kb cc (pc + 2) b) (hn : Reader.signed 16 (a * 256 + b) = v) : decode cc pc = .ok (.ifCond .lt v, 3) := by
  refine kdec (n := pc + 3) ((kbind h0).trans ?_) (by omega)
  exact (kbind (ks2 h1 h2 hn)).trans rfl
theorem dz_191 {cc : ByteArray} {pc : Nat} (h0 : kb cc pc 191) : decode cc pc = .ok (.athrow, 1) := by
  refine kdec (n := pc + 1) ((kbind h0).trans ?_) (by omega)
  rfl
theorem dz_32 {cc : ByteArray} {pc : Nat} (h0 : kb cc pc 32) : decode cc pc = .ok (.lload_n 2, 1) := by
  refine kdec (n := pc + 1) ((kbind h0).trans ?_) (by omega)
  rfl
theorem dz_117 {cc : ByteArray} {pc : Nat} (h0 : kb cc pc 117) : decode cc pc = .ok (.lneg, 1) := by
  refine kdec (n := pc + 1) ((kbind h0).trans ?_) (by omega)
  rfl
theorem dz_2 {cc : ByteArray} {pc : Nat} (h0 : kb cc pc 2) : decode cc pc = .ok (.iconst (-1), 1) := by
  refine kdec (n := pc + 1) ((kbind h0).trans ?_) (by omega)
  rfl
theorem dz_104 {cc : ByteArray} {pc : Nat} (h0 : kb cc pc 104) : decode cc pc = .ok (.imul, 1) := by
  refine kdec (n := pc + 1) ((kbind h0).trans ?_) (by omega)
  rfl
theorem dz_157 {cc : ByteArray} {pc a b : Nat} {v : Int} (h0 : kb cc pc 157) (h1 : kb cc (pc + 1) a) (h2 : kb cc (pc + 2) b) (hn : Reader.signed 16 (a * 256 + b) = v) : decode cc pc = .ok (.ifCond .gt v, 3) := by
  refine kdec (n := pc + 3) ((kbind h0).trans ?_) (by omega)
  exact (kbind (ks2 h1 h2 hn)).trans rfl
theorem dz_146 {cc : ByteArray} {pc : Nat} (h0 : kb cc pc 146) : decode cc pc = .ok (.i2c, 1) := by
  refine kdec (n := pc + 1) ((kbind h0).trans ?_) (by omega)
  rfl
theorem dz_19 {cc : ByteArray} {pc a b : Nat} {v : Nat} (h0 : kb cc pc 19) (h1 : kb cc (pc + 1) a) (h2 : kb cc (pc + 2) b) (hn : a * 256 + b = v) : decode cc pc = .ok (.ldc_w v, 3) := by
  refine kdec (n := pc + 3) ((kbind h0).trans ?_) (by omega)
  exact (kbind (ku2 h1 h2 hn)).trans rfl
theorem dz_189 {cc : ByteArray} {pc a b : Nat} {v : Nat} (h0 : kb cc pc 189) (h1 : kb cc (pc + 1) a) (h2 : kb cc (pc + 2) b) (hn : a * 256 + b = v) : decode cc pc = .ok (.anewarray v, 3) := by
  refine kdec (n := pc + 3) ((kbind h0).trans ?_) (by omega)
  exact (kbind (ku2 h1 h2 hn)).trans rfl
theorem dz_83 {cc : ByteArray} {pc : Nat} (h0 : kb cc pc 83) : decode cc pc = .ok (.aastore, 1) := by
  refine kdec (n := pc + 1) ((kbind h0).trans ?_) (by omega)
  rfl
theorem dz_178 {cc : ByteArray} {pc a b : Nat} {v : Nat} (h0 : kb cc pc 178) (h1 : kb cc (pc + 1) a) (h2 : kb cc (pc + 2) b) (hn : a * 256 + b = v) : decode cc pc = .ok (.getstatic v, 3) := by
  refine kdec (n := pc + 3) ((kbind h0).trans ?_) (by omega)
  exact (kbind (ku2 h1 h2 hn)).trans rfl
theorem dz_159 {cc : ByteArray} {pc a b : Nat} {v : Int} (h0 : kb cc pc 159) (h1 : kb cc (pc + 1) a) (h2 : kb cc (pc + 2) b) (hn : Reader.signed 16 (a * 256 + b) = v) : decode cc pc = .ok (.if_icmp .eq v, 3) := by
  refine kdec (n := pc + 3) ((kbind h0).trans ?_) (by omega)
  exact (kbind (ks2 h1 h2 hn)).trans rfl
theorem dz_50 {cc : ByteArray} {pc : Nat} (h0 : kb cc pc 50) : decode cc pc = .ok (.aaload, 1) := by
  refine kdec (n := pc + 1) ((kbind h0).trans ?_) (by omega)
  rfl
theorem dz_58 {cc : ByteArray} {pc a : Nat} (h0 : kb cc pc 58) (h1 : kb cc (pc + 1) a) : decode cc pc = .ok (.astore a, 2) := by
  refine kdec (n := pc + 2) ((kbind h0).trans ?_) (by omega)
  exact (kbind h1).trans rfl
theorem dz_25 {cc : ByteArray} {pc a : Nat} (h0 : kb cc pc 25) (h1 : kb cc (pc + 1) a) : decode cc pc = .ok (.aload a, 2) := by
  refine kdec (n := pc + 2) ((kbind h0).trans ?_) (by omega)
  exact (kbind h1).trans rfl
theorem dz_190 {cc : ByteArray} {pc : Nat} (h0 : kb cc pc 190) : decode cc pc = .ok (.arraylength, 1) := by
  refine kdec (n := pc + 1) ((kbind h0).trans ?_) (by omega)
  rfl
theorem dz_43 {cc : ByteArray} {pc : Nat} (h0 : kb cc pc 43) : decode cc pc = .ok (.aload_n 1, 1) := by
  refine kdec (n := pc + 1) ((kbind h0).trans ?_) (by omega)
  rfl
theorem dz_108 {cc : ByteArray} {pc : Nat} (h0 : kb cc pc 108) : decode cc pc = .ok (.idiv, 1) := by
  refine kdec (n := pc + 1) ((kbind h0).trans ?_) (by omega)
  rfl
theorem dz_78 {cc : ByteArray} {pc : Nat} (h0 : kb cc pc 78) : decode cc pc = .ok (.astore_n 3, 1) := by
  refine kdec (n := pc + 1) ((kbind h0).trans ?_) (by omega)
  rfl
theorem dz_45 {cc : ByteArray} {pc : Nat} (h0 : kb cc pc 45) : decode cc pc = .ok (.aload_n 3, 1) := by
  refine kdec (n := pc + 1) ((kbind h0).trans ?_) (by omega)
  rfl
theorem dz_77 {cc : ByteArray} {pc : Nat} (h0 : kb cc pc 77) : decode cc pc = .ok (.astore_n 2, 1) := by
  refine kdec (n := pc + 1) ((kbind h0).trans ?_) (by omega)
  rfl
theorem dz_44 {cc : ByteArray} {pc : Nat} (h0 : kb cc pc 44) : decode cc pc = .ok (.aload_n 2, 1) := by
  refine kdec (n := pc + 1) ((kbind h0).trans ?_) (by omega)
  rfl
theorem dz_92 {cc : ByteArray} {pc : Nat} (h0 : kb cc pc 92) : decode cc pc = .ok (.dup2, 1) := by
  refine kdec (n := pc + 1) ((kbind h0).trans ?_) (by omega)
  rfl
theorem dz_122 {cc : ByteArray} {pc : Nat} (h0 : kb cc pc 122) : decode cc pc = .ok (.ishr, 1) := by
  refine kdec (n := pc + 1) ((kbind h0).trans ?_) (by omega)
  rfl
theorem dz_120 {cc : ByteArray} {pc : Nat} (h0 : kb cc pc 120) : decode cc pc = .ok (.ishl, 1) := by
  refine kdec (n := pc + 1) ((kbind h0).trans ?_) (by omega)
  rfl
theorem dz_76 {cc : ByteArray} {pc : Nat} (h0 : kb cc pc 76) : decode cc pc = .ok (.astore_n 1, 1) := by
  refine kdec (n := pc + 1) ((kbind h0).trans ?_) (by omega)
  rfl
theorem dz_51 {cc : ByteArray} {pc : Nat} (h0 : kb cc pc 51) : decode cc pc = .ok (.baload, 1) := by
  refine kdec (n := pc + 1) ((kbind h0).trans ?_) (by omega)
  rfl
theorem dz_126 {cc : ByteArray} {pc : Nat} (h0 : kb cc pc 126) : decode cc pc = .ok (.iand, 1) := by
  refine kdec (n := pc + 1) ((kbind h0).trans ?_) (by omega)
  rfl
theorem dz_199 {cc : ByteArray} {pc a b : Nat} {v : Int} (h0 : kb cc pc 199) (h1 : kb cc (pc + 1) a) (h2 : kb cc (pc + 2) b) (hn : Reader.signed 16 (a * 256 + b) = v) : decode cc pc = .ok (.ifnonnull v, 3) := by
  refine kdec (n := pc + 3) ((kbind h0).trans ?_) (by omega)
  exact (kbind (ks2 h1 h2 hn)).trans rfl
theorem dz_84 {cc : ByteArray} {pc : Nat} (h0 : kb cc pc 84) : decode cc pc = .ok (.bastore, 1) := by
  refine kdec (n := pc + 1) ((kbind h0).trans ?_) (by omega)
  rfl
theorem dz_90 {cc : ByteArray} {pc : Nat} (h0 : kb cc pc 90) : decode cc pc = .ok (.dup_x1, 1) := by
  refine kdec (n := pc + 1) ((kbind h0).trans ?_) (by omega)
  rfl
theorem dz_145 {cc : ByteArray} {pc : Nat} (h0 : kb cc pc 145) : decode cc pc = .ok (.i2b, 1) := by
  refine kdec (n := pc + 1) ((kbind h0).trans ?_) (by omega)
  rfl
theorem dz_116 {cc : ByteArray} {pc : Nat} (h0 : kb cc pc 116) : decode cc pc = .ok (.ineg, 1) := by
  refine kdec (n := pc + 1) ((kbind h0).trans ?_) (by omega)
  rfl
theorem dz_59 {cc : ByteArray} {pc : Nat} (h0 : kb cc pc 59) : decode cc pc = .ok (.istore_n 0, 1) := by
  refine kdec (n := pc + 1) ((kbind h0).trans ?_) (by omega)
  rfl
theorem dz_63 {cc : ByteArray} {pc : Nat} (h0 : kb cc pc 63) : decode cc pc = .ok (.lstore_n 0, 1) := by
  refine kdec (n := pc + 1) ((kbind h0).trans ?_) (by omega)
  rfl
theorem dz_131 {cc : ByteArray} {pc : Nat} (h0 : kb cc pc 131) : decode cc pc = .ok (.lxor, 1) := by
  refine kdec (n := pc + 1) ((kbind h0).trans ?_) (by omega)
  rfl
theorem dz_112 {cc : ByteArray} {pc : Nat} (h0 : kb cc pc 112) : decode cc pc = .ok (.irem, 1) := by
  refine kdec (n := pc + 1) ((kbind h0).trans ?_) (by omega)
  rfl
theorem dz_130 {cc : ByteArray} {pc : Nat} (h0 : kb cc pc 130) : decode cc pc = .ok (.ixor, 1) := by
  refine kdec (n := pc + 1) ((kbind h0).trans ?_) (by omega)
  rfl
theorem dz_1 {cc : ByteArray} {pc : Nat} (h0 : kb cc pc 1) : decode cc pc = .ok (.aconst_null, 1) := by
  refine kdec (n := pc + 1) ((kbind h0).trans ?_) (by omega)
  rfl
theorem dz_166 {cc : ByteArray} {pc a b : Nat} {v : Int} (h0 : kb cc pc 166) (h1 : kb cc (pc + 1) a) (h2 : kb cc (pc + 2) b) (hn : Reader.signed 16 (a * 256 + b) = v) : decode cc pc = .ok (.if_acmp .ne v, 3) := by
  refine kdec (n := pc + 3) ((kbind h0).trans ?_) (by omega)
  exact (kbind (ks2 h1 h2 hn)).trans rfl
theorem dz_193 {cc : ByteArray} {pc a b : Nat} {v : Nat} (h0 : kb cc pc 193) (h1 : kb cc (pc + 1) a) (h2 : kb cc (pc + 2) b) (hn : a * 256 + b = v) : decode cc pc = .ok (.instanceof v, 3) := by
  refine kdec (n := pc + 3) ((kbind h0).trans ?_) (by omega)
  exact (kbind (ku2 h1 h2 hn)).trans rfl
theorem dz_192 {cc : ByteArray} {pc a b : Nat} {v : Nat} (h0 : kb cc pc 192) (h1 : kb cc (pc + 1) a) (h2 : kb cc (pc + 2) b) (hn : a * 256 + b = v) : decode cc pc = .ok (.checkcast v, 3) := by
  refine kdec (n := pc + 3) ((kbind h0).trans ?_) (by omega)
  exact (kbind (ku2 h1 h2 hn)).trans rfl
theorem dz_128 {cc : ByteArray} {pc : Nat} (h0 : kb cc pc 128) : decode cc pc = .ok (.ior, 1) := by
  refine kdec (n := pc + 1) ((kbind h0).trans ?_) (by omega)
  rfl
