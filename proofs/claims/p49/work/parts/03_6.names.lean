def kCcL_later_0 : List Nat := [25, 4, 42, 27, 28, 29, 182, 0, 65, 133, 181, 0, 13, 167, 0, 7, 58, 5, 4, 172, 3, 172]
theorem kRcL_later_eq : cL_later.data.toList.map UInt8.toNat = kCcL_later_0 := by decide +kernel
theorem dL_later_0 : decode cL_later 0 = .ok (.aload 4, 2) := dz_25 (kin0 (p := 0) kRcL_later_eq rfl) (kin0 (p := 1) kRcL_later_eq rfl)
theorem dL_later_2 : decode cL_later 2 = .ok (.aload_n 0, 1) := dz_42 (kin0 (p := 2) kRcL_later_eq rfl)
theorem dL_later_3 : decode cL_later 3 = .ok (.iload_n 1, 1) := dz_27 (kin0 (p := 3) kRcL_later_eq rfl)
theorem dL_later_4 : decode cL_later 4 = .ok (.iload_n 2, 1) := dz_28 (kin0 (p := 4) kRcL_later_eq rfl)
theorem dL_later_5 : decode cL_later 5 = .ok (.iload_n 3, 1) := dz_29 (kin0 (p := 5) kRcL_later_eq rfl)
theorem dL_later_6 : decode cL_later 6 = .ok (.invokevirtual 65, 3) := dz_182 (kin0 (p := 6) kRcL_later_eq rfl) (kin0 (p := 7) kRcL_later_eq rfl) (kin0 (p := 8) kRcL_later_eq rfl) rfl
theorem dL_later_9 : decode cL_later 9 = .ok (.i2l, 1) := dz_133 (kin0 (p := 9) kRcL_later_eq rfl)
theorem dL_later_10 : decode cL_later 10 = .ok (.putfield 13, 3) := dz_181 (kin0 (p := 10) kRcL_later_eq rfl) (kin0 (p := 11) kRcL_later_eq rfl) (kin0 (p := 12) kRcL_later_eq rfl) rfl
theorem dL_later_13 : decode cL_later 13 = .ok (.goto 7, 3) := dz_167 (kin0 (p := 13) kRcL_later_eq rfl) (kin0 (p := 14) kRcL_later_eq rfl) (kin0 (p := 15) kRcL_later_eq rfl) rfl
theorem dL_later_16 : decode cL_later 16 = .ok (.astore 5, 2) := dz_58 (kin0 (p := 16) kRcL_later_eq rfl) (kin0 (p := 17) kRcL_later_eq rfl)
theorem dL_later_18 : decode cL_later 18 = .ok (.iconst 1, 1) := dz_4 (kin0 (p := 18) kRcL_later_eq rfl)
theorem dL_later_19 : decode cL_later 19 = .ok (.ireturn, 1) := dz_172 (kin0 (p := 19) kRcL_later_eq rfl)
theorem dL_later_20 : decode cL_later 20 = .ok (.iconst 0, 1) := dz_3 (kin0 (p := 20) kRcL_later_eq rfl)
theorem dL_later_21 : decode cL_later 21 = .ok (.ireturn, 1) := dz_172 (kin0 (p := 21) kRcL_later_eq rfl)
def kCcL_yearUnits_0 : List Nat := [25, 5, 42, 27, 28, 29, 21, 4, 182, 0, 68, 133, 181, 0, 13, 167, 0, 11, 58, 6, 4, 172, 58, 6, 5, 172, 3, 172]
theorem kRcL_yearUnits_eq : cL_yearUnits.data.toList.map UInt8.toNat = kCcL_yearUnits_0 := by decide +kernel
theorem dL_yearUnits_0 : decode cL_yearUnits 0 = .ok (.aload 5, 2) := dz_25 (kin0 (p := 0) kRcL_yearUnits_eq rfl) (kin0 (p := 1) kRcL_yearUnits_eq rfl)
theorem dL_yearUnits_2 : decode cL_yearUnits 2 = .ok (.aload_n 0, 1) := dz_42 (kin0 (p := 2) kRcL_yearUnits_eq rfl)
theorem dL_yearUnits_3 : decode cL_yearUnits 3 = .ok (.iload_n 1, 1) := dz_27 (kin0 (p := 3) kRcL_yearUnits_eq rfl)
theorem dL_yearUnits_4 : decode cL_yearUnits 4 = .ok (.iload_n 2, 1) := dz_28 (kin0 (p := 4) kRcL_yearUnits_eq rfl)
theorem dL_yearUnits_5 : decode cL_yearUnits 5 = .ok (.iload_n 3, 1) := dz_29 (kin0 (p := 5) kRcL_yearUnits_eq rfl)
theorem dL_yearUnits_6 : decode cL_yearUnits 6 = .ok (.iload 4, 2) := dz_21 (kin0 (p := 6) kRcL_yearUnits_eq rfl) (kin0 (p := 7) kRcL_yearUnits_eq rfl)
theorem dL_yearUnits_8 : decode cL_yearUnits 8 = .ok (.invokevirtual 68, 3) := dz_182 (kin0 (p := 8) kRcL_yearUnits_eq rfl) (kin0 (p := 9) kRcL_yearUnits_eq rfl) (kin0 (p := 10) kRcL_yearUnits_eq rfl) rfl
theorem dL_yearUnits_11 : decode cL_yearUnits 11 = .ok (.i2l, 1) := dz_133 (kin0 (p := 11) kRcL_yearUnits_eq rfl)
theorem dL_yearUnits_12 : decode cL_yearUnits 12 = .ok (.putfield 13, 3) := dz_181 (kin0 (p := 12) kRcL_yearUnits_eq rfl) (kin0 (p := 13) kRcL_yearUnits_eq rfl) (kin0 (p := 14) kRcL_yearUnits_eq rfl) rfl
theorem dL_yearUnits_15 : decode cL_yearUnits 15 = .ok (.goto 11, 3) := dz_167 (kin0 (p := 15) kRcL_yearUnits_eq rfl) (kin0 (p := 16) kRcL_yearUnits_eq rfl) (kin0 (p := 17) kRcL_yearUnits_eq rfl) rfl
theorem dL_yearUnits_18 : decode cL_yearUnits 18 = .ok (.astore 6, 2) := dz_58 (kin0 (p := 18) kRcL_yearUnits_eq rfl) (kin0 (p := 19) kRcL_yearUnits_eq rfl)
theorem dL_yearUnits_20 : decode cL_yearUnits 20 = .ok (.iconst 1, 1) := dz_4 (kin0 (p := 20) kRcL_yearUnits_eq rfl)
theorem dL_yearUnits_21 : decode cL_yearUnits 21 = .ok (.ireturn, 1) := dz_172 (kin0 (p := 21) kRcL_yearUnits_eq rfl)
theorem dL_yearUnits_22 : decode cL_yearUnits 22 = .ok (.astore 6, 2) := dz_58 (kin0 (p := 22) kRcL_yearUnits_eq rfl) (kin0 (p := 23) kRcL_yearUnits_eq rfl)
theorem dL_yearUnits_24 : decode cL_yearUnits 24 = .ok (.iconst 2, 1) := dz_5 (kin0 (p := 24) kRcL_yearUnits_eq rfl)
theorem dL_yearUnits_25 : decode cL_yearUnits 25 = .ok (.ireturn, 1) := dz_172 (kin0 (p := 25) kRcL_yearUnits_eq rfl)
theorem dL_yearUnits_26 : decode cL_yearUnits 26 = .ok (.iconst 0, 1) := dz_3 (kin0 (p := 26) kRcL_yearUnits_eq rfl)
theorem dL_yearUnits_27 : decode cL_yearUnits 27 = .ok (.ireturn, 1) := dz_172 (kin0 (p := 27) kRcL_yearUnits_eq rfl)
def kCcL_yearWith_0 : List Nat := [25, 4, 42, 27, 28, 29, 182, 0, 71, 133, 181, 0, 13, 167, 0, 11, 58, 5, 4, 172, 58, 5, 5, 172, 3, 172]
theorem kRcL_yearWith_eq : cL_yearWith.data.toList.map UInt8.toNat = kCcL_yearWith_0 := by decide +kernel
theorem dL_yearWith_0 : decode cL_yearWith 0 = .ok (.aload 4, 2) := dz_25 (kin0 (p := 0) kRcL_yearWith_eq rfl) (kin0 (p := 1) kRcL_yearWith_eq rfl)
theorem dL_yearWith_2 : decode cL_yearWith 2 = .ok (.aload_n 0, 1) := dz_42 (kin0 (p := 2) kRcL_yearWith_eq rfl)
theorem dL_yearWith_3 : decode cL_yearWith 3 = .ok (.iload_n 1, 1) := dz_27 (kin0 (p := 3) kRcL_yearWith_eq rfl)
theorem dL_yearWith_4 : decode cL_yearWith 4 = .ok (.iload_n 2, 1) := dz_28 (kin0 (p := 4) kRcL_yearWith_eq rfl)
theorem dL_yearWith_5 : decode cL_yearWith 5 = .ok (.iload_n 3, 1) := dz_29 (kin0 (p := 5) kRcL_yearWith_eq rfl)
theorem dL_yearWith_6 : decode cL_yearWith 6 = .ok (.invokevirtual 71, 3) := dz_182 (kin0 (p := 6) kRcL_yearWith_eq rfl) (kin0 (p := 7) kRcL_yearWith_eq rfl) (kin0 (p := 8) kRcL_yearWith_eq rfl) rfl
theorem dL_yearWith_9 : decode cL_yearWith 9 = .ok (.i2l, 1) := dz_133 (kin0 (p := 9) kRcL_yearWith_eq rfl)
theorem dL_yearWith_10 : decode cL_yearWith 10 = .ok (.putfield 13, 3) := dz_181 (kin0 (p := 10) kRcL_yearWith_eq rfl) (kin0 (p := 11) kRcL_yearWith_eq rfl) (kin0 (p := 12) kRcL_yearWith_eq rfl) rfl
theorem dL_yearWith_13 : decode cL_yearWith 13 = .ok (.goto 11, 3) := dz_167 (kin0 (p := 13) kRcL_yearWith_eq rfl) (kin0 (p := 14) kRcL_yearWith_eq rfl) (kin0 (p := 15) kRcL_yearWith_eq rfl) rfl
theorem dL_yearWith_16 : decode cL_yearWith 16 = .ok (.astore 5, 2) := dz_58 (kin0 (p := 16) kRcL_yearWith_eq rfl) (kin0 (p := 17) kRcL_yearWith_eq rfl)
theorem dL_yearWith_18 : decode cL_yearWith 18 = .ok (.iconst 1, 1) := dz_4 (kin0 (p := 18) kRcL_yearWith_eq rfl)
theorem dL_yearWith_19 : decode cL_yearWith 19 = .ok (.ireturn, 1) := dz_172 (kin0 (p := 19) kRcL_yearWith_eq rfl)
theorem dL_yearWith_20 : decode cL_yearWith 20 = .ok (.astore 5, 2) := dz_58 (kin0 (p := 20) kRcL_yearWith_eq rfl) (kin0 (p := 21) kRcL_yearWith_eq rfl)
theorem dL_yearWith_22 : decode cL_yearWith 22 = .ok (.iconst 2, 1) := dz_5 (kin0 (p := 22) kRcL_yearWith_eq rfl)
theorem dL_yearWith_23 : decode cL_yearWith 23 = .ok (.ireturn, 1) := dz_172 (kin0 (p := 23) kRcL_yearWith_eq rfl)
theorem dL_yearWith_24 : decode cL_yearWith 24 = .ok (.iconst 0, 1) := dz_3 (kin0 (p := 24) kRcL_yearWith_eq rfl)
theorem dL_yearWith_25 : decode cL_yearWith 25 = .ok (.ireturn, 1) := dz_172 (kin0 (p := 25) kRcL_yearWith_eq rfl)
def kCcL_yearOf_0 : List Nat := [25, 4, 42, 27, 28, 29, 182, 0, 74, 133, 181, 0, 13, 167, 0, 7, 58, 5, 4, 172, 3, 172]
theorem kRcL_yearOf_eq : cL_yearOf.data.toList.map UInt8.toNat = kCcL_yearOf_0 := by decide +kernel
theorem dL_yearOf_0 : decode cL_yearOf 0 = .ok (.aload 4, 2) := dz_25 (kin0 (p := 0) kRcL_yearOf_eq rfl) (kin0 (p := 1) kRcL_yearOf_eq rfl)
theorem dL_yearOf_2 : decode cL_yearOf 2 = .ok (.aload_n 0, 1) := dz_42 (kin0 (p := 2) kRcL_yearOf_eq rfl)
theorem dL_yearOf_3 : decode cL_yearOf 3 = .ok (.iload_n 1, 1) := dz_27 (kin0 (p := 3) kRcL_yearOf_eq rfl)
theorem dL_yearOf_4 : decode cL_yearOf 4 = .ok (.iload_n 2, 1) := dz_28 (kin0 (p := 4) kRcL_yearOf_eq rfl)
theorem dL_yearOf_5 : decode cL_yearOf 5 = .ok (.iload_n 3, 1) := dz_29 (kin0 (p := 5) kRcL_yearOf_eq rfl)
theorem dL_yearOf_6 : decode cL_yearOf 6 = .ok (.invokevirtual 74, 3) := dz_182 (kin0 (p := 6) kRcL_yearOf_eq rfl) (kin0 (p := 7) kRcL_yearOf_eq rfl) (kin0 (p := 8) kRcL_yearOf_eq rfl) rfl
theorem dL_yearOf_9 : decode cL_yearOf 9 = .ok (.i2l, 1) := dz_133 (kin0 (p := 9) kRcL_yearOf_eq rfl)
theorem dL_yearOf_10 : decode cL_yearOf 10 = .ok (.putfield 13, 3) := dz_181 (kin0 (p := 10) kRcL_yearOf_eq rfl) (kin0 (p := 11) kRcL_yearOf_eq rfl) (kin0 (p := 12) kRcL_yearOf_eq rfl) rfl
theorem dL_yearOf_13 : decode cL_yearOf 13 = .ok (.goto 7, 3) := dz_167 (kin0 (p := 13) kRcL_yearOf_eq rfl) (kin0 (p := 14) kRcL_yearOf_eq rfl) (kin0 (p := 15) kRcL_yearOf_eq rfl) rfl
theorem dL_yearOf_16 : decode cL_yearOf 16 = .ok (.astore 5, 2) := dz_58 (kin0 (p := 16) kRcL_yearOf_eq rfl) (kin0 (p := 17) kRcL_yearOf_eq rfl)
theorem dL_yearOf_18 : decode cL_yearOf 18 = .ok (.iconst 1, 1) := dz_4 (kin0 (p := 18) kRcL_yearOf_eq rfl)
theorem dL_yearOf_19 : decode cL_yearOf 19 = .ok (.ireturn, 1) := dz_172 (kin0 (p := 19) kRcL_yearOf_eq rfl)
theorem dL_yearOf_20 : decode cL_yearOf 20 = .ok (.iconst 0, 1) := dz_3 (kin0 (p := 20) kRcL_yearOf_eq rfl)
theorem dL_yearOf_21 : decode cL_yearOf 21 = .ok (.ireturn, 1) := dz_172 (kin0 (p := 21) kRcL_yearOf_eq rfl)
def kCcL_yearLike_0 : List Nat := [45, 42, 27, 28, 182, 0, 78, 133, 181, 0, 13, 167, 0, 7, 58, 4, 4, 172, 3, 172]
theorem kRcL_yearLike_eq : cL_yearLike.data.toList.map UInt8.toNat = kCcL_yearLike_0 := by decide +kernel
theorem dL_yearLike_0 : decode cL_yearLike 0 = .ok (.aload_n 3, 1) := dz_45 (kin0 (p := 0) kRcL_yearLike_eq rfl)
theorem dL_yearLike_1 : decode cL_yearLike 1 = .ok (.aload_n 0, 1) := dz_42 (kin0 (p := 1) kRcL_yearLike_eq rfl)
theorem dL_yearLike_2 : decode cL_yearLike 2 = .ok (.iload_n 1, 1) := dz_27 (kin0 (p := 2) kRcL_yearLike_eq rfl)
theorem dL_yearLike_3 : decode cL_yearLike 3 = .ok (.iload_n 2, 1) := dz_28 (kin0 (p := 3) kRcL_yearLike_eq rfl)
theorem dL_yearLike_4 : decode cL_yearLike 4 = .ok (.invokevirtual 78, 3) := dz_182 (kin0 (p := 4) kRcL_yearLike_eq rfl) (kin0 (p := 5) kRcL_yearLike_eq rfl) (kin0 (p := 6) kRcL_yearLike_eq rfl) rfl
theorem dL_yearLike_7 : decode cL_yearLike 7 = .ok (.i2l, 1) := dz_133 (kin0 (p := 7) kRcL_yearLike_eq rfl)
theorem dL_yearLike_8 : decode cL_yearLike 8 = .ok (.putfield 13, 3) := dz_181 (kin0 (p := 8) kRcL_yearLike_eq rfl) (kin0 (p := 9) kRcL_yearLike_eq rfl) (kin0 (p := 10) kRcL_yearLike_eq rfl) rfl
theorem dL_yearLike_11 : decode cL_yearLike 11 = .ok (.goto 7, 3) := dz_167 (kin0 (p := 11) kRcL_yearLike_eq rfl) (kin0 (p := 12) kRcL_yearLike_eq rfl) (kin0 (p := 13) kRcL_yearLike_eq rfl) rfl
theorem dL_yearLike_14 : decode cL_yearLike 14 = .ok (.astore 4, 2) := dz_58 (kin0 (p := 14) kRcL_yearLike_eq rfl) (kin0 (p := 15) kRcL_yearLike_eq rfl)
theorem dL_yearLike_16 : decode cL_yearLike 16 = .ok (.iconst 1, 1) := dz_4 (kin0 (p := 16) kRcL_yearLike_eq rfl)
theorem dL_yearLike_17 : decode cL_yearLike 17 = .ok (.ireturn, 1) := dz_172 (kin0 (p := 17) kRcL_yearLike_eq rfl)
theorem dL_yearLike_18 : decode cL_yearLike 18 = .ok (.iconst 0, 1) := dz_3 (kin0 (p := 18) kRcL_yearLike_eq rfl)
theorem dL_yearLike_19 : decode cL_yearLike 19 = .ok (.ireturn, 1) := dz_172 (kin0 (p := 19) kRcL_yearLike_eq rfl)
def kCcL_feast_0 : List Nat := [25, 4, 42, 27, 28, 29, 182, 0, 81, 133, 181, 0, 13, 167, 0, 11, 58, 5, 4, 172, 58, 5, 5, 172, 3, 172]
theorem kRcL_feast_eq : cL_feast.data.toList.map UInt8.toNat = kCcL_feast_0 := by decide +kernel
theorem dL_feast_0 : decode cL_feast 0 = .ok (.aload 4, 2) := dz_25 (kin0 (p := 0) kRcL_feast_eq rfl) (kin0 (p := 1) kRcL_feast_eq rfl)
theorem dL_feast_2 : decode cL_feast 2 = .ok (.aload_n 0, 1) := dz_42 (kin0 (p := 2) kRcL_feast_eq rfl)
theorem dL_feast_3 : decode cL_feast 3 = .ok (.iload_n 1, 1) := dz_27 (kin0 (p := 3) kRcL_feast_eq rfl)
theorem dL_feast_4 : decode cL_feast 4 = .ok (.iload_n 2, 1) := dz_28 (kin0 (p := 4) kRcL_feast_eq rfl)
theorem dL_feast_5 : decode cL_feast 5 = .ok (.iload_n 3, 1) := dz_29 (kin0 (p := 5) kRcL_feast_eq rfl)
theorem dL_feast_6 : decode cL_feast 6 = .ok (.invokevirtual 81, 3) := dz_182 (kin0 (p := 6) kRcL_feast_eq rfl) (kin0 (p := 7) kRcL_feast_eq rfl) (kin0 (p := 8) kRcL_feast_eq rfl) rfl
theorem dL_feast_9 : decode cL_feast 9 = .ok (.i2l, 1) := dz_133 (kin0 (p := 9) kRcL_feast_eq rfl)
theorem dL_feast_10 : decode cL_feast 10 = .ok (.putfield 13, 3) := dz_181 (kin0 (p := 10) kRcL_feast_eq rfl) (kin0 (p := 11) kRcL_feast_eq rfl) (kin0 (p := 12) kRcL_feast_eq rfl) rfl
theorem dL_feast_13 : decode cL_feast 13 = .ok (.goto 11, 3) := dz_167 (kin0 (p := 13) kRcL_feast_eq rfl) (kin0 (p := 14) kRcL_feast_eq rfl) (kin0 (p := 15) kRcL_feast_eq rfl) rfl
theorem dL_feast_16 : decode cL_feast 16 = .ok (.astore 5, 2) := dz_58 (kin0 (p := 16) kRcL_feast_eq rfl) (kin0 (p := 17) kRcL_feast_eq rfl)
theorem dL_feast_18 : decode cL_feast 18 = .ok (.iconst 1, 1) := dz_4 (kin0 (p := 18) kRcL_feast_eq rfl)
theorem dL_feast_19 : decode cL_feast 19 = .ok (.ireturn, 1) := dz_172 (kin0 (p := 19) kRcL_feast_eq rfl)
theorem dL_feast_20 : decode cL_feast 20 = .ok (.astore 5, 2) := dz_58 (kin0 (p := 20) kRcL_feast_eq rfl) (kin0 (p := 21) kRcL_feast_eq rfl)
theorem dL_feast_22 : decode cL_feast 22 = .ok (.iconst 2, 1) := dz_5 (kin0 (p := 22) kRcL_feast_eq rfl)
theorem dL_feast_23 : decode cL_feast 23 = .ok (.ireturn, 1) := dz_172 (kin0 (p := 23) kRcL_feast_eq rfl)
theorem dL_feast_24 : decode cL_feast 24 = .ok (.iconst 0, 1) := dz_3 (kin0 (p := 24) kRcL_feast_eq rfl)
theorem dL_feast_25 : decode cL_feast 25 = .ok (.ireturn, 1) := dz_172 (kin0 (p := 25) kRcL_feast_eq rfl)
def kCcL_feastRound_0 : List Nat := [25, 4, 42, 27, 28, 29, 182, 0, 84, 133, 181, 0, 13, 167, 0, 11, 58, 5, 4, 172, 58, 5, 5, 172, 3, 172]
theorem kRcL_feastRound_eq : cL_feastRound.data.toList.map UInt8.toNat = kCcL_feastRound_0 := by decide +kernel
theorem dL_feastRound_0 : decode cL_feastRound 0 = .ok (.aload 4, 2) := dz_25 (kin0 (p := 0) kRcL_feastRound_eq rfl) (kin0 (p := 1) kRcL_feastRound_eq rfl)
theorem dL_feastRound_2 : decode cL_feastRound 2 = .ok (.aload_n 0, 1) := dz_42 (kin0 (p := 2) kRcL_feastRound_eq rfl)
theorem dL_feastRound_3 : decode cL_feastRound 3 = .ok (.iload_n 1, 1) := dz_27 (kin0 (p := 3) kRcL_feastRound_eq rfl)
theorem dL_feastRound_4 : decode cL_feastRound 4 = .ok (.iload_n 2, 1) := dz_28 (kin0 (p := 4) kRcL_feastRound_eq rfl)
theorem dL_feastRound_5 : decode cL_feastRound 5 = .ok (.iload_n 3, 1) := dz_29 (kin0 (p := 5) kRcL_feastRound_eq rfl)
theorem dL_feastRound_6 : decode cL_feastRound 6 = .ok (.invokevirtual 84, 3) := dz_182 (kin0 (p := 6) kRcL_feastRound_eq rfl) (kin0 (p := 7) kRcL_feastRound_eq rfl) (kin0 (p := 8) kRcL_feastRound_eq rfl) rfl
theorem dL_feastRound_9 : decode cL_feastRound 9 = .ok (.i2l, 1) := dz_133 (kin0 (p := 9) kRcL_feastRound_eq rfl)
theorem dL_feastRound_10 : decode cL_feastRound 10 = .ok (.putfield 13, 3) := dz_181 (kin0 (p := 10) kRcL_feastRound_eq rfl) (kin0 (p := 11) kRcL_feastRound_eq rfl) (kin0 (p := 12) kRcL_feastRound_eq rfl) rfl
theorem dL_feastRound_13 : decode cL_feastRound 13 = .ok (.goto 11, 3) := dz_167 (kin0 (p := 13) kRcL_feastRound_eq rfl) (kin0 (p := 14) kRcL_feastRound_eq rfl) (kin0 (p := 15) kRcL_feastRound_eq rfl) rfl
theorem dL_feastRound_16 : decode cL_feastRound 16 = .ok (.astore 5, 2) := dz_58 (kin0 (p := 16) kRcL_feastRound_eq rfl) (kin0 (p := 17) kRcL_feastRound_eq rfl)
theorem dL_feastRound_18 : decode cL_feastRound 18 = .ok (.iconst 1, 1) := dz_4 (kin0 (p := 18) kRcL_feastRound_eq rfl)
theorem dL_feastRound_19 : decode cL_feastRound 19 = .ok (.ireturn, 1) := dz_172 (kin0 (p := 19) kRcL_feastRound_eq rfl)
theorem dL_feastRound_20 : decode cL_feastRound 20 = .ok (.astore 5, 2) := dz_58 (kin0 (p := 20) kRcL_feastRound_eq rfl) (kin0 (p := 21) kRcL_feastRound_eq rfl)
theorem dL_feastRound_22 : decode cL_feastRound 22 = .ok (.iconst 2, 1) := dz_5 (kin0 (p := 22) kRcL_feastRound_eq rfl)
theorem dL_feastRound_23 : decode cL_feastRound 23 = .ok (.ireturn, 1) := dz_172 (kin0 (p := 23) kRcL_feastRound_eq rfl)
theorem dL_feastRound_24 : decode cL_feastRound 24 = .ok (.iconst 0, 1) := dz_3 (kin0 (p := 24) kRcL_feastRound_eq rfl)
theorem dL_feastRound_25 : decode cL_feastRound 25 = .ok (.ireturn, 1) := dz_172 (kin0 (p := 25) kRcL_feastRound_eq rfl)
def kCcL_feastMonth_0 : List Nat := [25, 4, 42, 27, 28, 29, 182, 0, 87, 133, 181, 0, 13, 167, 0, 11, 58, 5, 4, 172, 58, 5, 5, 172, 3, 172]
theorem kRcL_feastMonth_eq : cL_feastMonth.data.toList.map UInt8.toNat = kCcL_feastMonth_0 := by decide +kernel
theorem dL_feastMonth_0 : decode cL_feastMonth 0 = .ok (.aload 4, 2) := dz_25 (kin0 (p := 0) kRcL_feastMonth_eq rfl) (kin0 (p := 1) kRcL_feastMonth_eq rfl)
theorem dL_feastMonth_2 : decode cL_feastMonth 2 = .ok (.aload_n 0, 1) := dz_42 (kin0 (p := 2) kRcL_feastMonth_eq rfl)
theorem dL_feastMonth_3 : decode cL_feastMonth 3 = .ok (.iload_n 1, 1) := dz_27 (kin0 (p := 3) kRcL_feastMonth_eq rfl)
theorem dL_feastMonth_4 : decode cL_feastMonth 4 = .ok (.iload_n 2, 1) := dz_28 (kin0 (p := 4) kRcL_feastMonth_eq rfl)
theorem dL_feastMonth_5 : decode cL_feastMonth 5 = .ok (.iload_n 3, 1) := dz_29 (kin0 (p := 5) kRcL_feastMonth_eq rfl)
theorem dL_feastMonth_6 : decode cL_feastMonth 6 = .ok (.invokevirtual 87, 3) := dz_182 (kin0 (p := 6) kRcL_feastMonth_eq rfl) (kin0 (p := 7) kRcL_feastMonth_eq rfl) (kin0 (p := 8) kRcL_feastMonth_eq rfl) rfl
theorem dL_feastMonth_9 : decode cL_feastMonth 9 = .ok (.i2l, 1) := dz_133 (kin0 (p := 9) kRcL_feastMonth_eq rfl)
theorem dL_feastMonth_10 : decode cL_feastMonth 10 = .ok (.putfield 13, 3) := dz_181 (kin0 (p := 10) kRcL_feastMonth_eq rfl) (kin0 (p := 11) kRcL_feastMonth_eq rfl) (kin0 (p := 12) kRcL_feastMonth_eq rfl) rfl
theorem dL_feastMonth_13 : decode cL_feastMonth 13 = .ok (.goto 11, 3) := dz_167 (kin0 (p := 13) kRcL_feastMonth_eq rfl) (kin0 (p := 14) kRcL_feastMonth_eq rfl) (kin0 (p := 15) kRcL_feastMonth_eq rfl) rfl
theorem dL_feastMonth_16 : decode cL_feastMonth 16 = .ok (.astore 5, 2) := dz_58 (kin0 (p := 16) kRcL_feastMonth_eq rfl) (kin0 (p := 17) kRcL_feastMonth_eq rfl)
theorem dL_feastMonth_18 : decode cL_feastMonth 18 = .ok (.iconst 1, 1) := dz_4 (kin0 (p := 18) kRcL_feastMonth_eq rfl)
theorem dL_feastMonth_19 : decode cL_feastMonth 19 = .ok (.ireturn, 1) := dz_172 (kin0 (p := 19) kRcL_feastMonth_eq rfl)
theorem dL_feastMonth_20 : decode cL_feastMonth 20 = .ok (.astore 5, 2) := dz_58 (kin0 (p := 20) kRcL_feastMonth_eq rfl) (kin0 (p := 21) kRcL_feastMonth_eq rfl)
theorem dL_feastMonth_22 : decode cL_feastMonth 22 = .ok (.iconst 2, 1) := dz_5 (kin0 (p := 22) kRcL_feastMonth_eq rfl)
theorem dL_feastMonth_23 : decode cL_feastMonth 23 = .ok (.ireturn, 1) := dz_172 (kin0 (p := 23) kRcL_feastMonth_eq rfl)
theorem dL_feastMonth_24 : decode cL_feastMonth 24 = .ok (.iconst 0, 1) := dz_3 (kin0 (p := 24) kRcL_feastMonth_eq rfl)
theorem dL_feastMonth_25 : decode cL_feastMonth 25 = .ok (.ireturn, 1) := dz_172 (kin0 (p := 25) kRcL_feastMonth_eq rfl)
def kCcL_feastDay_0 : List Nat := [25, 4, 42, 27, 28, 29, 182, 0, 90, 133, 181, 0, 13, 167, 0, 11, 58, 5, 4, 172, 58, 5, 5, 172, 3, 172]
theorem kRcL_feastDay_eq : cL_feastDay.data.toList.map UInt8.toNat = kCcL_feastDay_0 := by decide +kernel
theorem dL_feastDay_0 : decode cL_feastDay 0 = .ok (.aload 4, 2) := dz_25 (kin0 (p := 0) kRcL_feastDay_eq rfl) (kin0 (p := 1) kRcL_feastDay_eq rfl)
theorem dL_feastDay_2 : decode cL_feastDay 2 = .ok (.aload_n 0, 1) := dz_42 (kin0 (p := 2) kRcL_feastDay_eq rfl)
theorem dL_feastDay_3 : decode cL_feastDay 3 = .ok (.iload_n 1, 1) := dz_27 (kin0 (p := 3) kRcL_feastDay_eq rfl)
theorem dL_feastDay_4 : decode cL_feastDay 4 = .ok (.iload_n 2, 1) := dz_28 (kin0 (p := 4) kRcL_feastDay_eq rfl)
theorem dL_feastDay_5 : decode cL_feastDay 5 = .ok (.iload_n 3, 1) := dz_29 (kin0 (p := 5) kRcL_feastDay_eq rfl)
theorem dL_feastDay_6 : decode cL_feastDay 6 = .ok (.invokevirtual 90, 3) := dz_182 (kin0 (p := 6) kRcL_feastDay_eq rfl) (kin0 (p := 7) kRcL_feastDay_eq rfl) (kin0 (p := 8) kRcL_feastDay_eq rfl) rfl
theorem dL_feastDay_9 : decode cL_feastDay 9 = .ok (.i2l, 1) := dz_133 (kin0 (p := 9) kRcL_feastDay_eq rfl)
theorem dL_feastDay_10 : decode cL_feastDay 10 = .ok (.putfield 13, 3) := dz_181 (kin0 (p := 10) kRcL_feastDay_eq rfl) (kin0 (p := 11) kRcL_feastDay_eq rfl) (kin0 (p := 12) kRcL_feastDay_eq rfl) rfl
theorem dL_feastDay_13 : decode cL_feastDay 13 = .ok (.goto 11, 3) := dz_167 (kin0 (p := 13) kRcL_feastDay_eq rfl) (kin0 (p := 14) kRcL_feastDay_eq rfl) (kin0 (p := 15) kRcL_feastDay_eq rfl) rfl
theorem dL_feastDay_16 : decode cL_feastDay 16 = .ok (.astore 5, 2) := dz_58 (kin0 (p := 16) kRcL_feastDay_eq rfl) (kin0 (p := 17) kRcL_feastDay_eq rfl)
theorem dL_feastDay_18 : decode cL_feastDay 18 = .ok (.iconst 1, 1) := dz_4 (kin0 (p := 18) kRcL_feastDay_eq rfl)
theorem dL_feastDay_19 : decode cL_feastDay 19 = .ok (.ireturn, 1) := dz_172 (kin0 (p := 19) kRcL_feastDay_eq rfl)
theorem dL_feastDay_20 : decode cL_feastDay 20 = .ok (.astore 5, 2) := dz_58 (kin0 (p := 20) kRcL_feastDay_eq rfl) (kin0 (p := 21) kRcL_feastDay_eq rfl)
theorem dL_feastDay_22 : decode cL_feastDay 22 = .ok (.iconst 2, 1) := dz_5 (kin0 (p := 22) kRcL_feastDay_eq rfl)
theorem dL_feastDay_23 : decode cL_feastDay 23 = .ok (.ireturn, 1) := dz_172 (kin0 (p := 23) kRcL_feastDay_eq rfl)
theorem dL_feastDay_24 : decode cL_feastDay 24 = .ok (.iconst 0, 1) := dz_3 (kin0 (p := 24) kRcL_feastDay_eq rfl)
theorem dL_feastDay_25 : decode cL_feastDay 25 = .ok (.ireturn, 1) := dz_172 (kin0 (p := 25) kRcL_feastDay_eq rfl)
def kCcL_feastOf_0 : List Nat := [45, 42, 27, 28, 182, 0, 93, 133, 181, 0, 13, 167, 0, 7, 58, 4, 4, 172, 3, 172]
theorem kRcL_feastOf_eq : cL_feastOf.data.toList.map UInt8.toNat = kCcL_feastOf_0 := by decide +kernel
theorem dL_feastOf_0 : decode cL_feastOf 0 = .ok (.aload_n 3, 1) := dz_45 (kin0 (p := 0) kRcL_feastOf_eq rfl)
theorem dL_feastOf_1 : decode cL_feastOf 1 = .ok (.aload_n 0, 1) := dz_42 (kin0 (p := 1) kRcL_feastOf_eq rfl)
theorem dL_feastOf_2 : decode cL_feastOf 2 = .ok (.iload_n 1, 1) := dz_27 (kin0 (p := 2) kRcL_feastOf_eq rfl)
theorem dL_feastOf_3 : decode cL_feastOf 3 = .ok (.iload_n 2, 1) := dz_28 (kin0 (p := 3) kRcL_feastOf_eq rfl)
theorem dL_feastOf_4 : decode cL_feastOf 4 = .ok (.invokevirtual 93, 3) := dz_182 (kin0 (p := 4) kRcL_feastOf_eq rfl) (kin0 (p := 5) kRcL_feastOf_eq rfl) (kin0 (p := 6) kRcL_feastOf_eq rfl) rfl
theorem dL_feastOf_7 : decode cL_feastOf 7 = .ok (.i2l, 1) := dz_133 (kin0 (p := 7) kRcL_feastOf_eq rfl)
theorem dL_feastOf_8 : decode cL_feastOf 8 = .ok (.putfield 13, 3) := dz_181 (kin0 (p := 8) kRcL_feastOf_eq rfl) (kin0 (p := 9) kRcL_feastOf_eq rfl) (kin0 (p := 10) kRcL_feastOf_eq rfl) rfl
theorem dL_feastOf_11 : decode cL_feastOf 11 = .ok (.goto 7, 3) := dz_167 (kin0 (p := 11) kRcL_feastOf_eq rfl) (kin0 (p := 12) kRcL_feastOf_eq rfl) (kin0 (p := 13) kRcL_feastOf_eq rfl) rfl
theorem dL_feastOf_14 : decode cL_feastOf 14 = .ok (.astore 4, 2) := dz_58 (kin0 (p := 14) kRcL_feastOf_eq rfl) (kin0 (p := 15) kRcL_feastOf_eq rfl)
theorem dL_feastOf_16 : decode cL_feastOf 16 = .ok (.iconst 1, 1) := dz_4 (kin0 (p := 16) kRcL_feastOf_eq rfl)
theorem dL_feastOf_17 : decode cL_feastOf 17 = .ok (.ireturn, 1) := dz_172 (kin0 (p := 17) kRcL_feastOf_eq rfl)
theorem dL_feastOf_18 : decode cL_feastOf 18 = .ok (.iconst 0, 1) := dz_3 (kin0 (p := 18) kRcL_feastOf_eq rfl)
theorem dL_feastOf_19 : decode cL_feastOf 19 = .ok (.ireturn, 1) := dz_172 (kin0 (p := 19) kRcL_feastOf_eq rfl)
def kCcL_feastLike_0 : List Nat := [45, 42, 27, 28, 182, 0, 96, 133, 181, 0, 13, 167, 0, 7, 58, 4, 4, 172, 3, 172]
theorem kRcL_feastLike_eq : cL_feastLike.data.toList.map UInt8.toNat = kCcL_feastLike_0 := by decide +kernel
theorem dL_feastLike_0 : decode cL_feastLike 0 = .ok (.aload_n 3, 1) := dz_45 (kin0 (p := 0) kRcL_feastLike_eq rfl)
theorem dL_feastLike_1 : decode cL_feastLike 1 = .ok (.aload_n 0, 1) := dz_42 (kin0 (p := 1) kRcL_feastLike_eq rfl)
theorem dL_feastLike_2 : decode cL_feastLike 2 = .ok (.iload_n 1, 1) := dz_27 (kin0 (p := 2) kRcL_feastLike_eq rfl)
theorem dL_feastLike_3 : decode cL_feastLike 3 = .ok (.iload_n 2, 1) := dz_28 (kin0 (p := 3) kRcL_feastLike_eq rfl)
theorem dL_feastLike_4 : decode cL_feastLike 4 = .ok (.invokevirtual 96, 3) := dz_182 (kin0 (p := 4) kRcL_feastLike_eq rfl) (kin0 (p := 5) kRcL_feastLike_eq rfl) (kin0 (p := 6) kRcL_feastLike_eq rfl) rfl
theorem dL_feastLike_7 : decode cL_feastLike 7 = .ok (.i2l, 1) := dz_133 (kin0 (p := 7) kRcL_feastLike_eq rfl)
theorem dL_feastLike_8 : decode cL_feastLike 8 = .ok (.putfield 13, 3) := dz_181 (kin0 (p := 8) kRcL_feastLike_eq rfl) (kin0 (p := 9) kRcL_feastLike_eq rfl) (kin0 (p := 10) kRcL_feastLike_eq rfl) rfl
theorem dL_feastLike_11 : decode cL_feastLike 11 = .ok (.goto 7, 3) := dz_167 (kin0 (p := 11) kRcL_feastLike_eq rfl) (kin0 (p := 12) kRcL_feastLike_eq rfl) (kin0 (p := 13) kRcL_feastLike_eq rfl) rfl
theorem dL_feastLike_14 : decode cL_feastLike 14 = .ok (.astore 4, 2) := dz_58 (kin0 (p := 14) kRcL_feastLike_eq rfl) (kin0 (p := 15) kRcL_feastLike_eq rfl)
theorem dL_feastLike_16 : decode cL_feastLike 16 = .ok (.iconst 1, 1) := dz_4 (kin0 (p := 16) kRcL_feastLike_eq rfl)
theorem dL_feastLike_17 : decode cL_feastLike 17 = .ok (.ireturn, 1) := dz_172 (kin0 (p := 17) kRcL_feastLike_eq rfl)
theorem dL_feastLike_18 : decode cL_feastLike 18 = .ok (.iconst 0, 1) := dz_3 (kin0 (p := 18) kRcL_feastLike_eq rfl)
theorem dL_feastLike_19 : decode cL_feastLike 19 = .ok (.ireturn, 1) := dz_172 (kin0 (p := 19) kRcL_feastLike_eq rfl)
def kCcL_dayAt_0 : List Nat := [25, 4, 42, 27, 28, 29, 182, 0, 99, 133, 181, 0, 13, 167, 0, 11, 58, 5, 4, 172, 58, 5, 5, 172, 3, 172]
theorem kRcL_dayAt_eq : cL_dayAt.data.toList.map UInt8.toNat = kCcL_dayAt_0 := by decide +kernel
theorem dL_dayAt_0 : decode cL_dayAt 0 = .ok (.aload 4, 2) := dz_25 (kin0 (p := 0) kRcL_dayAt_eq rfl) (kin0 (p := 1) kRcL_dayAt_eq rfl)
theorem dL_dayAt_2 : decode cL_dayAt 2 = .ok (.aload_n 0, 1) := dz_42 (kin0 (p := 2) kRcL_dayAt_eq rfl)
theorem dL_dayAt_3 : decode cL_dayAt 3 = .ok (.iload_n 1, 1) := dz_27 (kin0 (p := 3) kRcL_dayAt_eq rfl)
theorem dL_dayAt_4 : decode cL_dayAt 4 = .ok (.iload_n 2, 1) := dz_28 (kin0 (p := 4) kRcL_dayAt_eq rfl)
theorem dL_dayAt_5 : decode cL_dayAt 5 = .ok (.iload_n 3, 1) := dz_29 (kin0 (p := 5) kRcL_dayAt_eq rfl)
theorem dL_dayAt_6 : decode cL_dayAt 6 = .ok (.invokevirtual 99, 3) := dz_182 (kin0 (p := 6) kRcL_dayAt_eq rfl) (kin0 (p := 7) kRcL_dayAt_eq rfl) (kin0 (p := 8) kRcL_dayAt_eq rfl) rfl
theorem dL_dayAt_9 : decode cL_dayAt 9 = .ok (.i2l, 1) := dz_133 (kin0 (p := 9) kRcL_dayAt_eq rfl)
theorem dL_dayAt_10 : decode cL_dayAt 10 = .ok (.putfield 13, 3) := dz_181 (kin0 (p := 10) kRcL_dayAt_eq rfl) (kin0 (p := 11) kRcL_dayAt_eq rfl) (kin0 (p := 12) kRcL_dayAt_eq rfl) rfl
theorem dL_dayAt_13 : decode cL_dayAt 13 = .ok (.goto 11, 3) := dz_167 (kin0 (p := 13) kRcL_dayAt_eq rfl) (kin0 (p := 14) kRcL_dayAt_eq rfl) (kin0 (p := 15) kRcL_dayAt_eq rfl) rfl
theorem dL_dayAt_16 : decode cL_dayAt 16 = .ok (.astore 5, 2) := dz_58 (kin0 (p := 16) kRcL_dayAt_eq rfl) (kin0 (p := 17) kRcL_dayAt_eq rfl)
theorem dL_dayAt_18 : decode cL_dayAt 18 = .ok (.iconst 1, 1) := dz_4 (kin0 (p := 18) kRcL_dayAt_eq rfl)
theorem dL_dayAt_19 : decode cL_dayAt 19 = .ok (.ireturn, 1) := dz_172 (kin0 (p := 19) kRcL_dayAt_eq rfl)
theorem dL_dayAt_20 : decode cL_dayAt 20 = .ok (.astore 5, 2) := dz_58 (kin0 (p := 20) kRcL_dayAt_eq rfl) (kin0 (p := 21) kRcL_dayAt_eq rfl)
theorem dL_dayAt_22 : decode cL_dayAt 22 = .ok (.iconst 2, 1) := dz_5 (kin0 (p := 22) kRcL_dayAt_eq rfl)
theorem dL_dayAt_23 : decode cL_dayAt 23 = .ok (.ireturn, 1) := dz_172 (kin0 (p := 23) kRcL_dayAt_eq rfl)
theorem dL_dayAt_24 : decode cL_dayAt 24 = .ok (.iconst 0, 1) := dz_3 (kin0 (p := 24) kRcL_dayAt_eq rfl)
theorem dL_dayAt_25 : decode cL_dayAt 25 = .ok (.ireturn, 1) := dz_172 (kin0 (p := 25) kRcL_dayAt_eq rfl)
def kCcL_dayEnd_0 : List Nat := [45, 42, 27, 28, 182, 0, 102, 133, 181, 0, 13, 167, 0, 7, 58, 4, 4, 172, 3, 172]
theorem kRcL_dayEnd_eq : cL_dayEnd.data.toList.map UInt8.toNat = kCcL_dayEnd_0 := by decide +kernel
theorem dL_dayEnd_0 : decode cL_dayEnd 0 = .ok (.aload_n 3, 1) := dz_45 (kin0 (p := 0) kRcL_dayEnd_eq rfl)
theorem dL_dayEnd_1 : decode cL_dayEnd 1 = .ok (.aload_n 0, 1) := dz_42 (kin0 (p := 1) kRcL_dayEnd_eq rfl)
theorem dL_dayEnd_2 : decode cL_dayEnd 2 = .ok (.iload_n 1, 1) := dz_27 (kin0 (p := 2) kRcL_dayEnd_eq rfl)
theorem dL_dayEnd_3 : decode cL_dayEnd 3 = .ok (.iload_n 2, 1) := dz_28 (kin0 (p := 3) kRcL_dayEnd_eq rfl)
theorem dL_dayEnd_4 : decode cL_dayEnd 4 = .ok (.invokevirtual 102, 3) := dz_182 (kin0 (p := 4) kRcL_dayEnd_eq rfl) (kin0 (p := 5) kRcL_dayEnd_eq rfl) (kin0 (p := 6) kRcL_dayEnd_eq rfl) rfl
theorem dL_dayEnd_7 : decode cL_dayEnd 7 = .ok (.i2l, 1) := dz_133 (kin0 (p := 7) kRcL_dayEnd_eq rfl)
theorem dL_dayEnd_8 : decode cL_dayEnd 8 = .ok (.putfield 13, 3) := dz_181 (kin0 (p := 8) kRcL_dayEnd_eq rfl) (kin0 (p := 9) kRcL_dayEnd_eq rfl) (kin0 (p := 10) kRcL_dayEnd_eq rfl) rfl
theorem dL_dayEnd_11 : decode cL_dayEnd 11 = .ok (.goto 7, 3) := dz_167 (kin0 (p := 11) kRcL_dayEnd_eq rfl) (kin0 (p := 12) kRcL_dayEnd_eq rfl) (kin0 (p := 13) kRcL_dayEnd_eq rfl) rfl
theorem dL_dayEnd_14 : decode cL_dayEnd 14 = .ok (.astore 4, 2) := dz_58 (kin0 (p := 14) kRcL_dayEnd_eq rfl) (kin0 (p := 15) kRcL_dayEnd_eq rfl)
theorem dL_dayEnd_16 : decode cL_dayEnd 16 = .ok (.iconst 1, 1) := dz_4 (kin0 (p := 16) kRcL_dayEnd_eq rfl)
theorem dL_dayEnd_17 : decode cL_dayEnd 17 = .ok (.ireturn, 1) := dz_172 (kin0 (p := 17) kRcL_dayEnd_eq rfl)
theorem dL_dayEnd_18 : decode cL_dayEnd 18 = .ok (.iconst 0, 1) := dz_3 (kin0 (p := 18) kRcL_dayEnd_eq rfl)
theorem dL_dayEnd_19 : decode cL_dayEnd 19 = .ok (.ireturn, 1) := dz_172 (kin0 (p := 19) kRcL_dayEnd_eq rfl)
def kCcL_dayInYear_0 : List Nat := [25, 4, 42, 27, 28, 29, 182, 0, 105, 133, 181, 0, 13, 167, 0, 11, 58, 5, 4, 172, 58, 5, 5, 172, 3, 172]
theorem kRcL_dayInYear_eq : cL_dayInYear.data.toList.map UInt8.toNat = kCcL_dayInYear_0 := by decide +kernel
theorem dL_dayInYear_0 : decode cL_dayInYear 0 = .ok (.aload 4, 2) := dz_25 (kin0 (p := 0) kRcL_dayInYear_eq rfl) (kin0 (p := 1) kRcL_dayInYear_eq rfl)
theorem dL_dayInYear_2 : decode cL_dayInYear 2 = .ok (.aload_n 0, 1) := dz_42 (kin0 (p := 2) kRcL_dayInYear_eq rfl)
theorem dL_dayInYear_3 : decode cL_dayInYear 3 = .ok (.iload_n 1, 1) := dz_27 (kin0 (p := 3) kRcL_dayInYear_eq rfl)
theorem dL_dayInYear_4 : decode cL_dayInYear 4 = .ok (.iload_n 2, 1) := dz_28 (kin0 (p := 4) kRcL_dayInYear_eq rfl)
theorem dL_dayInYear_5 : decode cL_dayInYear 5 = .ok (.iload_n 3, 1) := dz_29 (kin0 (p := 5) kRcL_dayInYear_eq rfl)
theorem dL_dayInYear_6 : decode cL_dayInYear 6 = .ok (.invokevirtual 105, 3) := dz_182 (kin0 (p := 6) kRcL_dayInYear_eq rfl) (kin0 (p := 7) kRcL_dayInYear_eq rfl) (kin0 (p := 8) kRcL_dayInYear_eq rfl) rfl
theorem dL_dayInYear_9 : decode cL_dayInYear 9 = .ok (.i2l, 1) := dz_133 (kin0 (p := 9) kRcL_dayInYear_eq rfl)
theorem dL_dayInYear_10 : decode cL_dayInYear 10 = .ok (.putfield 13, 3) := dz_181 (kin0 (p := 10) kRcL_dayInYear_eq rfl) (kin0 (p := 11) kRcL_dayInYear_eq rfl) (kin0 (p := 12) kRcL_dayInYear_eq rfl) rfl
theorem dL_dayInYear_13 : decode cL_dayInYear 13 = .ok (.goto 11, 3) := dz_167 (kin0 (p := 13) kRcL_dayInYear_eq rfl) (kin0 (p := 14) kRcL_dayInYear_eq rfl) (kin0 (p := 15) kRcL_dayInYear_eq rfl) rfl
theorem dL_dayInYear_16 : decode cL_dayInYear 16 = .ok (.astore 5, 2) := dz_58 (kin0 (p := 16) kRcL_dayInYear_eq rfl) (kin0 (p := 17) kRcL_dayInYear_eq rfl)
theorem dL_dayInYear_18 : decode cL_dayInYear 18 = .ok (.iconst 1, 1) := dz_4 (kin0 (p := 18) kRcL_dayInYear_eq rfl)
theorem dL_dayInYear_19 : decode cL_dayInYear 19 = .ok (.ireturn, 1) := dz_172 (kin0 (p := 19) kRcL_dayInYear_eq rfl)
theorem dL_dayInYear_20 : decode cL_dayInYear 20 = .ok (.astore 5, 2) := dz_58 (kin0 (p := 20) kRcL_dayInYear_eq rfl) (kin0 (p := 21) kRcL_dayInYear_eq rfl)
theorem dL_dayInYear_22 : decode cL_dayInYear 22 = .ok (.iconst 2, 1) := dz_5 (kin0 (p := 22) kRcL_dayInYear_eq rfl)
theorem dL_dayInYear_23 : decode cL_dayInYear 23 = .ok (.ireturn, 1) := dz_172 (kin0 (p := 23) kRcL_dayInYear_eq rfl)
theorem dL_dayInYear_24 : decode cL_dayInYear 24 = .ok (.iconst 0, 1) := dz_3 (kin0 (p := 24) kRcL_dayInYear_eq rfl)
theorem dL_dayInYear_25 : decode cL_dayInYear 25 = .ok (.ireturn, 1) := dz_172 (kin0 (p := 25) kRcL_dayInYear_eq rfl)
def kCcL_dayOfFeast_0 : List Nat := [25, 4, 42, 27, 28, 29, 182, 0, 108, 133, 181, 0, 13, 167, 0, 11, 58, 5, 4, 172, 58, 5, 5, 172, 3, 172]
theorem kRcL_dayOfFeast_eq : cL_dayOfFeast.data.toList.map UInt8.toNat = kCcL_dayOfFeast_0 := by decide +kernel
theorem dL_dayOfFeast_0 : decode cL_dayOfFeast 0 = .ok (.aload 4, 2) := dz_25 (kin0 (p := 0) kRcL_dayOfFeast_eq rfl) (kin0 (p := 1) kRcL_dayOfFeast_eq rfl)
theorem dL_dayOfFeast_2 : decode cL_dayOfFeast 2 = .ok (.aload_n 0, 1) := dz_42 (kin0 (p := 2) kRcL_dayOfFeast_eq rfl)
theorem dL_dayOfFeast_3 : decode cL_dayOfFeast 3 = .ok (.iload_n 1, 1) := dz_27 (kin0 (p := 3) kRcL_dayOfFeast_eq rfl)
theorem dL_dayOfFeast_4 : decode cL_dayOfFeast 4 = .ok (.iload_n 2, 1) := dz_28 (kin0 (p := 4) kRcL_dayOfFeast_eq rfl)
theorem dL_dayOfFeast_5 : decode cL_dayOfFeast 5 = .ok (.iload_n 3, 1) := dz_29 (kin0 (p := 5) kRcL_dayOfFeast_eq rfl)
theorem dL_dayOfFeast_6 : decode cL_dayOfFeast 6 = .ok (.invokevirtual 108, 3) := dz_182 (kin0 (p := 6) kRcL_dayOfFeast_eq rfl) (kin0 (p := 7) kRcL_dayOfFeast_eq rfl) (kin0 (p := 8) kRcL_dayOfFeast_eq rfl) rfl
theorem dL_dayOfFeast_9 : decode cL_dayOfFeast 9 = .ok (.i2l, 1) := dz_133 (kin0 (p := 9) kRcL_dayOfFeast_eq rfl)
theorem dL_dayOfFeast_10 : decode cL_dayOfFeast 10 = .ok (.putfield 13, 3) := dz_181 (kin0 (p := 10) kRcL_dayOfFeast_eq rfl) (kin0 (p := 11) kRcL_dayOfFeast_eq rfl) (kin0 (p := 12) kRcL_dayOfFeast_eq rfl) rfl
theorem dL_dayOfFeast_13 : decode cL_dayOfFeast 13 = .ok (.goto 11, 3) := dz_167 (kin0 (p := 13) kRcL_dayOfFeast_eq rfl) (kin0 (p := 14) kRcL_dayOfFeast_eq rfl) (kin0 (p := 15) kRcL_dayOfFeast_eq rfl) rfl
theorem dL_dayOfFeast_16 : decode cL_dayOfFeast 16 = .ok (.astore 5, 2) := dz_58 (kin0 (p := 16) kRcL_dayOfFeast_eq rfl) (kin0 (p := 17) kRcL_dayOfFeast_eq rfl)
theorem dL_dayOfFeast_18 : decode cL_dayOfFeast 18 = .ok (.iconst 1, 1) := dz_4 (kin0 (p := 18) kRcL_dayOfFeast_eq rfl)
theorem dL_dayOfFeast_19 : decode cL_dayOfFeast 19 = .ok (.ireturn, 1) := dz_172 (kin0 (p := 19) kRcL_dayOfFeast_eq rfl)
theorem dL_dayOfFeast_20 : decode cL_dayOfFeast 20 = .ok (.astore 5, 2) := dz_58 (kin0 (p := 20) kRcL_dayOfFeast_eq rfl) (kin0 (p := 21) kRcL_dayOfFeast_eq rfl)
theorem dL_dayOfFeast_22 : decode cL_dayOfFeast 22 = .ok (.iconst 2, 1) := dz_5 (kin0 (p := 22) kRcL_dayOfFeast_eq rfl)
theorem dL_dayOfFeast_23 : decode cL_dayOfFeast 23 = .ok (.ireturn, 1) := dz_172 (kin0 (p := 23) kRcL_dayOfFeast_eq rfl)
theorem dL_dayOfFeast_24 : decode cL_dayOfFeast 24 = .ok (.iconst 0, 1) := dz_3 (kin0 (p := 24) kRcL_dayOfFeast_eq rfl)
theorem dL_dayOfFeast_25 : decode cL_dayOfFeast 25 = .ok (.ireturn, 1) := dz_172 (kin0 (p := 25) kRcL_dayOfFeast_eq rfl)
def kCcL_dayOfYear_0 : List Nat := [25, 4, 42, 27, 28, 29, 182, 0, 111, 133, 181, 0, 13, 167, 0, 7, 58, 5, 4, 172, 3, 172]
theorem kRcL_dayOfYear_eq : cL_dayOfYear.data.toList.map UInt8.toNat = kCcL_dayOfYear_0 := by decide +kernel
theorem dL_dayOfYear_0 : decode cL_dayOfYear 0 = .ok (.aload 4, 2) := dz_25 (kin0 (p := 0) kRcL_dayOfYear_eq rfl) (kin0 (p := 1) kRcL_dayOfYear_eq rfl)
theorem dL_dayOfYear_2 : decode cL_dayOfYear 2 = .ok (.aload_n 0, 1) := dz_42 (kin0 (p := 2) kRcL_dayOfYear_eq rfl)
theorem dL_dayOfYear_3 : decode cL_dayOfYear 3 = .ok (.iload_n 1, 1) := dz_27 (kin0 (p := 3) kRcL_dayOfYear_eq rfl)
theorem dL_dayOfYear_4 : decode cL_dayOfYear 4 = .ok (.iload_n 2, 1) := dz_28 (kin0 (p := 4) kRcL_dayOfYear_eq rfl)
theorem dL_dayOfYear_5 : decode cL_dayOfYear 5 = .ok (.iload_n 3, 1) := dz_29 (kin0 (p := 5) kRcL_dayOfYear_eq rfl)
theorem dL_dayOfYear_6 : decode cL_dayOfYear 6 = .ok (.invokevirtual 111, 3) := dz_182 (kin0 (p := 6) kRcL_dayOfYear_eq rfl) (kin0 (p := 7) kRcL_dayOfYear_eq rfl) (kin0 (p := 8) kRcL_dayOfYear_eq rfl) rfl
theorem dL_dayOfYear_9 : decode cL_dayOfYear 9 = .ok (.i2l, 1) := dz_133 (kin0 (p := 9) kRcL_dayOfYear_eq rfl)
theorem dL_dayOfYear_10 : decode cL_dayOfYear 10 = .ok (.putfield 13, 3) := dz_181 (kin0 (p := 10) kRcL_dayOfYear_eq rfl) (kin0 (p := 11) kRcL_dayOfYear_eq rfl) (kin0 (p := 12) kRcL_dayOfYear_eq rfl) rfl
theorem dL_dayOfYear_13 : decode cL_dayOfYear 13 = .ok (.goto 7, 3) := dz_167 (kin0 (p := 13) kRcL_dayOfYear_eq rfl) (kin0 (p := 14) kRcL_dayOfYear_eq rfl) (kin0 (p := 15) kRcL_dayOfYear_eq rfl) rfl
theorem dL_dayOfYear_16 : decode cL_dayOfYear 16 = .ok (.astore 5, 2) := dz_58 (kin0 (p := 16) kRcL_dayOfYear_eq rfl) (kin0 (p := 17) kRcL_dayOfYear_eq rfl)
theorem dL_dayOfYear_18 : decode cL_dayOfYear 18 = .ok (.iconst 1, 1) := dz_4 (kin0 (p := 18) kRcL_dayOfYear_eq rfl)
theorem dL_dayOfYear_19 : decode cL_dayOfYear 19 = .ok (.ireturn, 1) := dz_172 (kin0 (p := 19) kRcL_dayOfYear_eq rfl)
theorem dL_dayOfYear_20 : decode cL_dayOfYear 20 = .ok (.iconst 0, 1) := dz_3 (kin0 (p := 20) kRcL_dayOfYear_eq rfl)
theorem dL_dayOfYear_21 : decode cL_dayOfYear 21 = .ok (.ireturn, 1) := dz_172 (kin0 (p := 21) kRcL_dayOfYear_eq rfl)
def kCcL_ofLeaf_0 : List Nat := [45, 42, 27, 28, 182, 0, 114, 133, 181, 0, 13, 167, 0, 11, 58, 4, 4, 172, 58, 4, 5, 172, 3, 172]
theorem kRcL_ofLeaf_eq : cL_ofLeaf.data.toList.map UInt8.toNat = kCcL_ofLeaf_0 := by decide +kernel
theorem dL_ofLeaf_0 : decode cL_ofLeaf 0 = .ok (.aload_n 3, 1) := dz_45 (kin0 (p := 0) kRcL_ofLeaf_eq rfl)
theorem dL_ofLeaf_1 : decode cL_ofLeaf 1 = .ok (.aload_n 0, 1) := dz_42 (kin0 (p := 1) kRcL_ofLeaf_eq rfl)
theorem dL_ofLeaf_2 : decode cL_ofLeaf 2 = .ok (.iload_n 1, 1) := dz_27 (kin0 (p := 2) kRcL_ofLeaf_eq rfl)
theorem dL_ofLeaf_3 : decode cL_ofLeaf 3 = .ok (.iload_n 2, 1) := dz_28 (kin0 (p := 3) kRcL_ofLeaf_eq rfl)
theorem dL_ofLeaf_4 : decode cL_ofLeaf 4 = .ok (.invokevirtual 114, 3) := dz_182 (kin0 (p := 4) kRcL_ofLeaf_eq rfl) (kin0 (p := 5) kRcL_ofLeaf_eq rfl) (kin0 (p := 6) kRcL_ofLeaf_eq rfl) rfl
theorem dL_ofLeaf_7 : decode cL_ofLeaf 7 = .ok (.i2l, 1) := dz_133 (kin0 (p := 7) kRcL_ofLeaf_eq rfl)
theorem dL_ofLeaf_8 : decode cL_ofLeaf 8 = .ok (.putfield 13, 3) := dz_181 (kin0 (p := 8) kRcL_ofLeaf_eq rfl) (kin0 (p := 9) kRcL_ofLeaf_eq rfl) (kin0 (p := 10) kRcL_ofLeaf_eq rfl) rfl
theorem dL_ofLeaf_11 : decode cL_ofLeaf 11 = .ok (.goto 11, 3) := dz_167 (kin0 (p := 11) kRcL_ofLeaf_eq rfl) (kin0 (p := 12) kRcL_ofLeaf_eq rfl) (kin0 (p := 13) kRcL_ofLeaf_eq rfl) rfl
theorem dL_ofLeaf_14 : decode cL_ofLeaf 14 = .ok (.astore 4, 2) := dz_58 (kin0 (p := 14) kRcL_ofLeaf_eq rfl) (kin0 (p := 15) kRcL_ofLeaf_eq rfl)
theorem dL_ofLeaf_16 : decode cL_ofLeaf 16 = .ok (.iconst 1, 1) := dz_4 (kin0 (p := 16) kRcL_ofLeaf_eq rfl)
theorem dL_ofLeaf_17 : decode cL_ofLeaf 17 = .ok (.ireturn, 1) := dz_172 (kin0 (p := 17) kRcL_ofLeaf_eq rfl)
theorem dL_ofLeaf_18 : decode cL_ofLeaf 18 = .ok (.astore 4, 2) := dz_58 (kin0 (p := 18) kRcL_ofLeaf_eq rfl) (kin0 (p := 19) kRcL_ofLeaf_eq rfl)
theorem dL_ofLeaf_20 : decode cL_ofLeaf 20 = .ok (.iconst 2, 1) := dz_5 (kin0 (p := 20) kRcL_ofLeaf_eq rfl)
theorem dL_ofLeaf_21 : decode cL_ofLeaf 21 = .ok (.ireturn, 1) := dz_172 (kin0 (p := 21) kRcL_ofLeaf_eq rfl)
theorem dL_ofLeaf_22 : decode cL_ofLeaf 22 = .ok (.iconst 0, 1) := dz_3 (kin0 (p := 22) kRcL_ofLeaf_eq rfl)
theorem dL_ofLeaf_23 : decode cL_ofLeaf 23 = .ok (.ireturn, 1) := dz_172 (kin0 (p := 23) kRcL_ofLeaf_eq rfl)
def kCcL_count_0 : List Nat := [44, 42, 27, 182, 0, 117, 181, 0, 121, 167, 0, 6, 78, 4, 172, 3, 172]
theorem kRcL_count_eq : cL_count.data.toList.map UInt8.toNat = kCcL_count_0 := by decide +kernel
theorem dL_count_0 : decode cL_count 0 = .ok (.aload_n 2, 1) := dz_44 (kin0 (p := 0) kRcL_count_eq rfl)
theorem dL_count_1 : decode cL_count 1 = .ok (.aload_n 0, 1) := dz_42 (kin0 (p := 1) kRcL_count_eq rfl)
theorem dL_count_2 : decode cL_count 2 = .ok (.iload_n 1, 1) := dz_27 (kin0 (p := 2) kRcL_count_eq rfl)
theorem dL_count_3 : decode cL_count 3 = .ok (.invokevirtual 117, 3) := dz_182 (kin0 (p := 3) kRcL_count_eq rfl) (kin0 (p := 4) kRcL_count_eq rfl) (kin0 (p := 5) kRcL_count_eq rfl) rfl
theorem dL_count_6 : decode cL_count 6 = .ok (.putfield 121, 3) := dz_181 (kin0 (p := 6) kRcL_count_eq rfl) (kin0 (p := 7) kRcL_count_eq rfl) (kin0 (p := 8) kRcL_count_eq rfl) rfl
theorem dL_count_9 : decode cL_count 9 = .ok (.goto 6, 3) := dz_167 (kin0 (p := 9) kRcL_count_eq rfl) (kin0 (p := 10) kRcL_count_eq rfl) (kin0 (p := 11) kRcL_count_eq rfl) rfl
theorem dL_count_12 : decode cL_count 12 = .ok (.astore_n 3, 1) := dz_78 (kin0 (p := 12) kRcL_count_eq rfl)
theorem dL_count_13 : decode cL_count 13 = .ok (.iconst 1, 1) := dz_4 (kin0 (p := 13) kRcL_count_eq rfl)
theorem dL_count_14 : decode cL_count 14 = .ok (.ireturn, 1) := dz_172 (kin0 (p := 14) kRcL_count_eq rfl)
theorem dL_count_15 : decode cL_count 15 = .ok (.iconst 0, 1) := dz_3 (kin0 (p := 15) kRcL_count_eq rfl)
theorem dL_count_16 : decode cL_count 16 = .ok (.ireturn, 1) := dz_172 (kin0 (p := 16) kRcL_count_eq rfl)
def kCcL_hasDay_0 : List Nat := [45, 42, 27, 28, 182, 0, 125, 153, 0, 7, 10, 167, 0, 4, 9, 181, 0, 13, 167, 0, 7, 58, 4, 4, 172, 3, 172]
theorem kRcL_hasDay_eq : cL_hasDay.data.toList.map UInt8.toNat = kCcL_hasDay_0 := by decide +kernel
theorem dL_hasDay_0 : decode cL_hasDay 0 = .ok (.aload_n 3, 1) := dz_45 (kin0 (p := 0) kRcL_hasDay_eq rfl)
theorem dL_hasDay_1 : decode cL_hasDay 1 = .ok (.aload_n 0, 1) := dz_42 (kin0 (p := 1) kRcL_hasDay_eq rfl)
theorem dL_hasDay_2 : decode cL_hasDay 2 = .ok (.iload_n 1, 1) := dz_27 (kin0 (p := 2) kRcL_hasDay_eq rfl)
theorem dL_hasDay_3 : decode cL_hasDay 3 = .ok (.iload_n 2, 1) := dz_28 (kin0 (p := 3) kRcL_hasDay_eq rfl)
theorem dL_hasDay_4 : decode cL_hasDay 4 = .ok (.invokevirtual 125, 3) := dz_182 (kin0 (p := 4) kRcL_hasDay_eq rfl) (kin0 (p := 5) kRcL_hasDay_eq rfl) (kin0 (p := 6) kRcL_hasDay_eq rfl) rfl
theorem dL_hasDay_7 : decode cL_hasDay 7 = .ok (.ifCond .eq 7, 3) := dz_153 (kin0 (p := 7) kRcL_hasDay_eq rfl) (kin0 (p := 8) kRcL_hasDay_eq rfl) (kin0 (p := 9) kRcL_hasDay_eq rfl) rfl
theorem dL_hasDay_10 : decode cL_hasDay 10 = .ok (.lconst 1, 1) := dz_10 (kin0 (p := 10) kRcL_hasDay_eq rfl)
theorem dL_hasDay_11 : decode cL_hasDay 11 = .ok (.goto 4, 3) := dz_167 (kin0 (p := 11) kRcL_hasDay_eq rfl) (kin0 (p := 12) kRcL_hasDay_eq rfl) (kin0 (p := 13) kRcL_hasDay_eq rfl) rfl
theorem dL_hasDay_14 : decode cL_hasDay 14 = .ok (.lconst 0, 1) := dz_9 (kin0 (p := 14) kRcL_hasDay_eq rfl)
theorem dL_hasDay_15 : decode cL_hasDay 15 = .ok (.putfield 13, 3) := dz_181 (kin0 (p := 15) kRcL_hasDay_eq rfl) (kin0 (p := 16) kRcL_hasDay_eq rfl) (kin0 (p := 17) kRcL_hasDay_eq rfl) rfl
theorem dL_hasDay_18 : decode cL_hasDay 18 = .ok (.goto 7, 3) := dz_167 (kin0 (p := 18) kRcL_hasDay_eq rfl) (kin0 (p := 19) kRcL_hasDay_eq rfl) (kin0 (p := 20) kRcL_hasDay_eq rfl) rfl
theorem dL_hasDay_21 : decode cL_hasDay 21 = .ok (.astore 4, 2) := dz_58 (kin0 (p := 21) kRcL_hasDay_eq rfl) (kin0 (p := 22) kRcL_hasDay_eq rfl)
theorem dL_hasDay_23 : decode cL_hasDay 23 = .ok (.iconst 1, 1) := dz_4 (kin0 (p := 23) kRcL_hasDay_eq rfl)
theorem dL_hasDay_24 : decode cL_hasDay 24 = .ok (.ireturn, 1) := dz_172 (kin0 (p := 24) kRcL_hasDay_eq rfl)
theorem dL_hasDay_25 : decode cL_hasDay 25 = .ok (.iconst 0, 1) := dz_3 (kin0 (p := 25) kRcL_hasDay_eq rfl)
theorem dL_hasDay_26 : decode cL_hasDay 26 = .ok (.ireturn, 1) := dz_172 (kin0 (p := 26) kRcL_hasDay_eq rfl)
def kCcL_leafOrder_0 : List Nat := [25, 4, 42, 27, 28, 29, 182, 0, 129, 133, 181, 0, 13, 167, 0, 11, 58, 5, 4, 172, 58, 5, 5, 172, 3, 172]
theorem kRcL_leafOrder_eq : cL_leafOrder.data.toList.map UInt8.toNat = kCcL_leafOrder_0 := by decide +kernel
theorem dL_leafOrder_0 : decode cL_leafOrder 0 = .ok (.aload 4, 2) := dz_25 (kin0 (p := 0) kRcL_leafOrder_eq rfl) (kin0 (p := 1) kRcL_leafOrder_eq rfl)
theorem dL_leafOrder_2 : decode cL_leafOrder 2 = .ok (.aload_n 0, 1) := dz_42 (kin0 (p := 2) kRcL_leafOrder_eq rfl)
theorem dL_leafOrder_3 : decode cL_leafOrder 3 = .ok (.iload_n 1, 1) := dz_27 (kin0 (p := 3) kRcL_leafOrder_eq rfl)
theorem dL_leafOrder_4 : decode cL_leafOrder 4 = .ok (.iload_n 2, 1) := dz_28 (kin0 (p := 4) kRcL_leafOrder_eq rfl)
theorem dL_leafOrder_5 : decode cL_leafOrder 5 = .ok (.iload_n 3, 1) := dz_29 (kin0 (p := 5) kRcL_leafOrder_eq rfl)
theorem dL_leafOrder_6 : decode cL_leafOrder 6 = .ok (.invokevirtual 129, 3) := dz_182 (kin0 (p := 6) kRcL_leafOrder_eq rfl) (kin0 (p := 7) kRcL_leafOrder_eq rfl) (kin0 (p := 8) kRcL_leafOrder_eq rfl) rfl
theorem dL_leafOrder_9 : decode cL_leafOrder 9 = .ok (.i2l, 1) := dz_133 (kin0 (p := 9) kRcL_leafOrder_eq rfl)
theorem dL_leafOrder_10 : decode cL_leafOrder 10 = .ok (.putfield 13, 3) := dz_181 (kin0 (p := 10) kRcL_leafOrder_eq rfl) (kin0 (p := 11) kRcL_leafOrder_eq rfl) (kin0 (p := 12) kRcL_leafOrder_eq rfl) rfl
theorem dL_leafOrder_13 : decode cL_leafOrder 13 = .ok (.goto 11, 3) := dz_167 (kin0 (p := 13) kRcL_leafOrder_eq rfl) (kin0 (p := 14) kRcL_leafOrder_eq rfl) (kin0 (p := 15) kRcL_leafOrder_eq rfl) rfl
theorem dL_leafOrder_16 : decode cL_leafOrder 16 = .ok (.astore 5, 2) := dz_58 (kin0 (p := 16) kRcL_leafOrder_eq rfl) (kin0 (p := 17) kRcL_leafOrder_eq rfl)
theorem dL_leafOrder_18 : decode cL_leafOrder 18 = .ok (.iconst 1, 1) := dz_4 (kin0 (p := 18) kRcL_leafOrder_eq rfl)
theorem dL_leafOrder_19 : decode cL_leafOrder 19 = .ok (.ireturn, 1) := dz_172 (kin0 (p := 19) kRcL_leafOrder_eq rfl)
theorem dL_leafOrder_20 : decode cL_leafOrder 20 = .ok (.astore 5, 2) := dz_58 (kin0 (p := 20) kRcL_leafOrder_eq rfl) (kin0 (p := 21) kRcL_leafOrder_eq rfl)
theorem dL_leafOrder_22 : decode cL_leafOrder 22 = .ok (.iconst 2, 1) := dz_5 (kin0 (p := 22) kRcL_leafOrder_eq rfl)
theorem dL_leafOrder_23 : decode cL_leafOrder 23 = .ok (.ireturn, 1) := dz_172 (kin0 (p := 23) kRcL_leafOrder_eq rfl)
theorem dL_leafOrder_24 : decode cL_leafOrder 24 = .ok (.iconst 0, 1) := dz_3 (kin0 (p := 24) kRcL_leafOrder_eq rfl)
theorem dL_leafOrder_25 : decode cL_leafOrder 25 = .ok (.ireturn, 1) := dz_172 (kin0 (p := 25) kRcL_leafOrder_eq rfl)
def kCcL_isLeaf_0 : List Nat := [25, 4, 42, 27, 28, 29, 182, 0, 132, 153, 0, 7, 10, 167, 0, 4, 9, 181, 0, 13, 167, 0, 11, 58, 5, 4, 172, 58, 5, 5, 172, 3]
def kCcL_isLeaf_1 : List Nat := [172]
def kRcL_isLeaf_2 : List Nat := []
def kRcL_isLeaf_1 : List Nat := kCcL_isLeaf_1 ++ kRcL_isLeaf_2
def kRcL_isLeaf_0 : List Nat := kCcL_isLeaf_0 ++ kRcL_isLeaf_1
theorem kRcL_isLeaf_eq : cL_isLeaf.data.toList.map UInt8.toNat = kRcL_isLeaf_0 := by decide +kernel
theorem katcL_isLeaf_0 (i : Nat) : (cL_isLeaf.data.toList.map UInt8.toNat)[0 + i]? = kRcL_isLeaf_0[i]? := by rw [kRcL_isLeaf_eq, Nat.zero_add]
theorem katcL_isLeaf_1 : ∀ i : Nat, (cL_isLeaf.data.toList.map UInt8.toNat)[32 + i]? = kRcL_isLeaf_1[i]? := kstep katcL_isLeaf_0 (C := kCcL_isLeaf_0) rfl rfl
theorem kBcL_isLeaf_0 {b : Nat} (p : Nat) (hp : Nat.ble 0 p = true) (h : kCcL_isLeaf_0[p - 0]? = some b) : kb cL_isLeaf p b := kin katcL_isLeaf_0 rfl hp h
theorem kBcL_isLeaf_1 {b : Nat} (p : Nat) (hp : Nat.ble 32 p = true) (h : kCcL_isLeaf_1[p - 32]? = some b) : kb cL_isLeaf p b := kin katcL_isLeaf_1 rfl hp h
theorem dL_isLeaf_0 : decode cL_isLeaf 0 = .ok (.aload 4, 2) := dz_25 (kBcL_isLeaf_0 0 rfl rfl) (kBcL_isLeaf_0 1 rfl rfl)
theorem dL_isLeaf_2 : decode cL_isLeaf 2 = .ok (.aload_n 0, 1) := dz_42 (kBcL_isLeaf_0 2 rfl rfl)
theorem dL_isLeaf_3 : decode cL_isLeaf 3 = .ok (.iload_n 1, 1) := dz_27 (kBcL_isLeaf_0 3 rfl rfl)
theorem dL_isLeaf_4 : decode cL_isLeaf 4 = .ok (.iload_n 2, 1) := dz_28 (kBcL_isLeaf_0 4 rfl rfl)
theorem dL_isLeaf_5 : decode cL_isLeaf 5 = .ok (.iload_n 3, 1) := dz_29 (kBcL_isLeaf_0 5 rfl rfl)
theorem dL_isLeaf_6 : decode cL_isLeaf 6 = .ok (.invokevirtual 132, 3) := dz_182 (kBcL_isLeaf_0 6 rfl rfl) (kBcL_isLeaf_0 7 rfl rfl) (kBcL_isLeaf_0 8 rfl rfl) rfl
theorem dL_isLeaf_9 : decode cL_isLeaf 9 = .ok (.ifCond .eq 7, 3) := dz_153 (kBcL_isLeaf_0 9 rfl rfl) (kBcL_isLeaf_0 10 rfl rfl) (kBcL_isLeaf_0 11 rfl rfl) rfl
theorem dL_isLeaf_12 : decode cL_isLeaf 12 = .ok (.lconst 1, 1) := dz_10 (kBcL_isLeaf_0 12 rfl rfl)
theorem dL_isLeaf_13 : decode cL_isLeaf 13 = .ok (.goto 4, 3) := dz_167 (kBcL_isLeaf_0 13 rfl rfl) (kBcL_isLeaf_0 14 rfl rfl) (kBcL_isLeaf_0 15 rfl rfl) rfl
theorem dL_isLeaf_16 : decode cL_isLeaf 16 = .ok (.lconst 0, 1) := dz_9 (kBcL_isLeaf_0 16 rfl rfl)
theorem dL_isLeaf_17 : decode cL_isLeaf 17 = .ok (.putfield 13, 3) := dz_181 (kBcL_isLeaf_0 17 rfl rfl) (kBcL_isLeaf_0 18 rfl rfl) (kBcL_isLeaf_0 19 rfl rfl) rfl
theorem dL_isLeaf_20 : decode cL_isLeaf 20 = .ok (.goto 11, 3) := dz_167 (kBcL_isLeaf_0 20 rfl rfl) (kBcL_isLeaf_0 21 rfl rfl) (kBcL_isLeaf_0 22 rfl rfl) rfl
theorem dL_isLeaf_23 : decode cL_isLeaf 23 = .ok (.astore 5, 2) := dz_58 (kBcL_isLeaf_0 23 rfl rfl) (kBcL_isLeaf_0 24 rfl rfl)
theorem dL_isLeaf_25 : decode cL_isLeaf 25 = .ok (.iconst 1, 1) := dz_4 (kBcL_isLeaf_0 25 rfl rfl)
theorem dL_isLeaf_26 : decode cL_isLeaf 26 = .ok (.ireturn, 1) := dz_172 (kBcL_isLeaf_0 26 rfl rfl)
theorem dL_isLeaf_27 : decode cL_isLeaf 27 = .ok (.astore 5, 2) := dz_58 (kBcL_isLeaf_0 27 rfl rfl) (kBcL_isLeaf_0 28 rfl rfl)
theorem dL_isLeaf_29 : decode cL_isLeaf 29 = .ok (.iconst 2, 1) := dz_5 (kBcL_isLeaf_0 29 rfl rfl)
theorem dL_isLeaf_30 : decode cL_isLeaf 30 = .ok (.ireturn, 1) := dz_172 (kBcL_isLeaf_0 30 rfl rfl)
theorem dL_isLeaf_31 : decode cL_isLeaf 31 = .ok (.iconst 0, 1) := dz_3 (kBcL_isLeaf_0 31 rfl rfl)
theorem dL_isLeaf_32 : decode cL_isLeaf 32 = .ok (.ireturn, 1) := dz_172 (kBcL_isLeaf_1 32 rfl rfl)
def kCcL_leafTo_0 : List Nat := [25, 5, 42, 27, 28, 29, 21, 4, 182, 0, 136, 181, 0, 121, 167, 0, 11, 58, 6, 4, 172, 58, 6, 5, 172, 3, 172]
theorem kRcL_leafTo_eq : cL_leafTo.data.toList.map UInt8.toNat = kCcL_leafTo_0 := by decide +kernel
theorem dL_leafTo_0 : decode cL_leafTo 0 = .ok (.aload 5, 2) := dz_25 (kin0 (p := 0) kRcL_leafTo_eq rfl) (kin0 (p := 1) kRcL_leafTo_eq rfl)
theorem dL_leafTo_2 : decode cL_leafTo 2 = .ok (.aload_n 0, 1) := dz_42 (kin0 (p := 2) kRcL_leafTo_eq rfl)
theorem dL_leafTo_3 : decode cL_leafTo 3 = .ok (.iload_n 1, 1) := dz_27 (kin0 (p := 3) kRcL_leafTo_eq rfl)
theorem dL_leafTo_4 : decode cL_leafTo 4 = .ok (.iload_n 2, 1) := dz_28 (kin0 (p := 4) kRcL_leafTo_eq rfl)
theorem dL_leafTo_5 : decode cL_leafTo 5 = .ok (.iload_n 3, 1) := dz_29 (kin0 (p := 5) kRcL_leafTo_eq rfl)
theorem dL_leafTo_6 : decode cL_leafTo 6 = .ok (.iload 4, 2) := dz_21 (kin0 (p := 6) kRcL_leafTo_eq rfl) (kin0 (p := 7) kRcL_leafTo_eq rfl)
theorem dL_leafTo_8 : decode cL_leafTo 8 = .ok (.invokevirtual 136, 3) := dz_182 (kin0 (p := 8) kRcL_leafTo_eq rfl) (kin0 (p := 9) kRcL_leafTo_eq rfl) (kin0 (p := 10) kRcL_leafTo_eq rfl) rfl
theorem dL_leafTo_11 : decode cL_leafTo 11 = .ok (.putfield 121, 3) := dz_181 (kin0 (p := 11) kRcL_leafTo_eq rfl) (kin0 (p := 12) kRcL_leafTo_eq rfl) (kin0 (p := 13) kRcL_leafTo_eq rfl) rfl
theorem dL_leafTo_14 : decode cL_leafTo 14 = .ok (.goto 11, 3) := dz_167 (kin0 (p := 14) kRcL_leafTo_eq rfl) (kin0 (p := 15) kRcL_leafTo_eq rfl) (kin0 (p := 16) kRcL_leafTo_eq rfl) rfl
theorem dL_leafTo_17 : decode cL_leafTo 17 = .ok (.astore 6, 2) := dz_58 (kin0 (p := 17) kRcL_leafTo_eq rfl) (kin0 (p := 18) kRcL_leafTo_eq rfl)
theorem dL_leafTo_19 : decode cL_leafTo 19 = .ok (.iconst 1, 1) := dz_4 (kin0 (p := 19) kRcL_leafTo_eq rfl)
theorem dL_leafTo_20 : decode cL_leafTo 20 = .ok (.ireturn, 1) := dz_172 (kin0 (p := 20) kRcL_leafTo_eq rfl)
theorem dL_leafTo_21 : decode cL_leafTo 21 = .ok (.astore 6, 2) := dz_58 (kin0 (p := 21) kRcL_leafTo_eq rfl) (kin0 (p := 22) kRcL_leafTo_eq rfl)
theorem dL_leafTo_23 : decode cL_leafTo 23 = .ok (.iconst 2, 1) := dz_5 (kin0 (p := 23) kRcL_leafTo_eq rfl)
theorem dL_leafTo_24 : decode cL_leafTo 24 = .ok (.ireturn, 1) := dz_172 (kin0 (p := 24) kRcL_leafTo_eq rfl)
theorem dL_leafTo_25 : decode cL_leafTo 25 = .ok (.iconst 0, 1) := dz_3 (kin0 (p := 25) kRcL_leafTo_eq rfl)
theorem dL_leafTo_26 : decode cL_leafTo 26 = .ok (.ireturn, 1) := dz_172 (kin0 (p := 26) kRcL_leafTo_eq rfl)
def kCcL_ofYear_0 : List Nat := [45, 42, 27, 28, 182, 0, 140, 133, 181, 0, 13, 167, 0, 11, 58, 4, 4, 172, 58, 4, 5, 172, 3, 172]
theorem kRcL_ofYear_eq : cL_ofYear.data.toList.map UInt8.toNat = kCcL_ofYear_0 := by decide +kernel
theorem dL_ofYear_0 : decode cL_ofYear 0 = .ok (.aload_n 3, 1) := dz_45 (kin0 (p := 0) kRcL_ofYear_eq rfl)
theorem dL_ofYear_1 : decode cL_ofYear 1 = .ok (.aload_n 0, 1) := dz_42 (kin0 (p := 1) kRcL_ofYear_eq rfl)
theorem dL_ofYear_2 : decode cL_ofYear 2 = .ok (.iload_n 1, 1) := dz_27 (kin0 (p := 2) kRcL_ofYear_eq rfl)
theorem dL_ofYear_3 : decode cL_ofYear 3 = .ok (.iload_n 2, 1) := dz_28 (kin0 (p := 3) kRcL_ofYear_eq rfl)
theorem dL_ofYear_4 : decode cL_ofYear 4 = .ok (.invokevirtual 140, 3) := dz_182 (kin0 (p := 4) kRcL_ofYear_eq rfl) (kin0 (p := 5) kRcL_ofYear_eq rfl) (kin0 (p := 6) kRcL_ofYear_eq rfl) rfl
theorem dL_ofYear_7 : decode cL_ofYear 7 = .ok (.i2l, 1) := dz_133 (kin0 (p := 7) kRcL_ofYear_eq rfl)
theorem dL_ofYear_8 : decode cL_ofYear 8 = .ok (.putfield 13, 3) := dz_181 (kin0 (p := 8) kRcL_ofYear_eq rfl) (kin0 (p := 9) kRcL_ofYear_eq rfl) (kin0 (p := 10) kRcL_ofYear_eq rfl) rfl
theorem dL_ofYear_11 : decode cL_ofYear 11 = .ok (.goto 11, 3) := dz_167 (kin0 (p := 11) kRcL_ofYear_eq rfl) (kin0 (p := 12) kRcL_ofYear_eq rfl) (kin0 (p := 13) kRcL_ofYear_eq rfl) rfl
theorem dL_ofYear_14 : decode cL_ofYear 14 = .ok (.astore 4, 2) := dz_58 (kin0 (p := 14) kRcL_ofYear_eq rfl) (kin0 (p := 15) kRcL_ofYear_eq rfl)
theorem dL_ofYear_16 : decode cL_ofYear 16 = .ok (.iconst 1, 1) := dz_4 (kin0 (p := 16) kRcL_ofYear_eq rfl)
theorem dL_ofYear_17 : decode cL_ofYear 17 = .ok (.ireturn, 1) := dz_172 (kin0 (p := 17) kRcL_ofYear_eq rfl)
theorem dL_ofYear_18 : decode cL_ofYear 18 = .ok (.astore 4, 2) := dz_58 (kin0 (p := 18) kRcL_ofYear_eq rfl) (kin0 (p := 19) kRcL_ofYear_eq rfl)
theorem dL_ofYear_20 : decode cL_ofYear 20 = .ok (.iconst 2, 1) := dz_5 (kin0 (p := 20) kRcL_ofYear_eq rfl)
theorem dL_ofYear_21 : decode cL_ofYear 21 = .ok (.ireturn, 1) := dz_172 (kin0 (p := 21) kRcL_ofYear_eq rfl)
theorem dL_ofYear_22 : decode cL_ofYear 22 = .ok (.iconst 0, 1) := dz_3 (kin0 (p := 22) kRcL_ofYear_eq rfl)
theorem dL_ofYear_23 : decode cL_ofYear 23 = .ok (.ireturn, 1) := dz_172 (kin0 (p := 23) kRcL_ofYear_eq rfl)
def kCcL_hasFeast_0 : List Nat := [25, 4, 42, 27, 28, 29, 182, 0, 143, 153, 0, 7, 10, 167, 0, 4, 9, 181, 0, 13, 167, 0, 7, 58, 5, 4, 172, 3, 172]
theorem kRcL_hasFeast_eq : cL_hasFeast.data.toList.map UInt8.toNat = kCcL_hasFeast_0 := by decide +kernel
theorem dL_hasFeast_0 : decode cL_hasFeast 0 = .ok (.aload 4, 2) := dz_25 (kin0 (p := 0) kRcL_hasFeast_eq rfl) (kin0 (p := 1) kRcL_hasFeast_eq rfl)
theorem dL_hasFeast_2 : decode cL_hasFeast 2 = .ok (.aload_n 0, 1) := dz_42 (kin0 (p := 2) kRcL_hasFeast_eq rfl)
theorem dL_hasFeast_3 : decode cL_hasFeast 3 = .ok (.iload_n 1, 1) := dz_27 (kin0 (p := 3) kRcL_hasFeast_eq rfl)
theorem dL_hasFeast_4 : decode cL_hasFeast 4 = .ok (.iload_n 2, 1) := dz_28 (kin0 (p := 4) kRcL_hasFeast_eq rfl)
theorem dL_hasFeast_5 : decode cL_hasFeast 5 = .ok (.iload_n 3, 1) := dz_29 (kin0 (p := 5) kRcL_hasFeast_eq rfl)
theorem dL_hasFeast_6 : decode cL_hasFeast 6 = .ok (.invokevirtual 143, 3) := dz_182 (kin0 (p := 6) kRcL_hasFeast_eq rfl) (kin0 (p := 7) kRcL_hasFeast_eq rfl) (kin0 (p := 8) kRcL_hasFeast_eq rfl) rfl
theorem dL_hasFeast_9 : decode cL_hasFeast 9 = .ok (.ifCond .eq 7, 3) := dz_153 (kin0 (p := 9) kRcL_hasFeast_eq rfl) (kin0 (p := 10) kRcL_hasFeast_eq rfl) (kin0 (p := 11) kRcL_hasFeast_eq rfl) rfl
theorem dL_hasFeast_12 : decode cL_hasFeast 12 = .ok (.lconst 1, 1) := dz_10 (kin0 (p := 12) kRcL_hasFeast_eq rfl)
theorem dL_hasFeast_13 : decode cL_hasFeast 13 = .ok (.goto 4, 3) := dz_167 (kin0 (p := 13) kRcL_hasFeast_eq rfl) (kin0 (p := 14) kRcL_hasFeast_eq rfl) (kin0 (p := 15) kRcL_hasFeast_eq rfl) rfl
theorem dL_hasFeast_16 : decode cL_hasFeast 16 = .ok (.lconst 0, 1) := dz_9 (kin0 (p := 16) kRcL_hasFeast_eq rfl)
theorem dL_hasFeast_17 : decode cL_hasFeast 17 = .ok (.putfield 13, 3) := dz_181 (kin0 (p := 17) kRcL_hasFeast_eq rfl) (kin0 (p := 18) kRcL_hasFeast_eq rfl) (kin0 (p := 19) kRcL_hasFeast_eq rfl) rfl
theorem dL_hasFeast_20 : decode cL_hasFeast 20 = .ok (.goto 7, 3) := dz_167 (kin0 (p := 20) kRcL_hasFeast_eq rfl) (kin0 (p := 21) kRcL_hasFeast_eq rfl) (kin0 (p := 22) kRcL_hasFeast_eq rfl) rfl
theorem dL_hasFeast_23 : decode cL_hasFeast 23 = .ok (.astore 5, 2) := dz_58 (kin0 (p := 23) kRcL_hasFeast_eq rfl) (kin0 (p := 24) kRcL_hasFeast_eq rfl)
theorem dL_hasFeast_25 : decode cL_hasFeast 25 = .ok (.iconst 1, 1) := dz_4 (kin0 (p := 25) kRcL_hasFeast_eq rfl)
theorem dL_hasFeast_26 : decode cL_hasFeast 26 = .ok (.ireturn, 1) := dz_172 (kin0 (p := 26) kRcL_hasFeast_eq rfl)
theorem dL_hasFeast_27 : decode cL_hasFeast 27 = .ok (.iconst 0, 1) := dz_3 (kin0 (p := 27) kRcL_hasFeast_eq rfl)
theorem dL_hasFeast_28 : decode cL_hasFeast 28 = .ok (.ireturn, 1) := dz_172 (kin0 (p := 28) kRcL_hasFeast_eq rfl)
def kCcL_yearOrder_0 : List Nat := [25, 4, 42, 27, 28, 29, 182, 0, 147, 133, 181, 0, 13, 167, 0, 11, 58, 5, 4, 172, 58, 5, 5, 172, 3, 172]
theorem kRcL_yearOrder_eq : cL_yearOrder.data.toList.map UInt8.toNat = kCcL_yearOrder_0 := by decide +kernel
theorem dL_yearOrder_0 : decode cL_yearOrder 0 = .ok (.aload 4, 2) := dz_25 (kin0 (p := 0) kRcL_yearOrder_eq rfl) (kin0 (p := 1) kRcL_yearOrder_eq rfl)
theorem dL_yearOrder_2 : decode cL_yearOrder 2 = .ok (.aload_n 0, 1) := dz_42 (kin0 (p := 2) kRcL_yearOrder_eq rfl)
theorem dL_yearOrder_3 : decode cL_yearOrder 3 = .ok (.iload_n 1, 1) := dz_27 (kin0 (p := 3) kRcL_yearOrder_eq rfl)
theorem dL_yearOrder_4 : decode cL_yearOrder 4 = .ok (.iload_n 2, 1) := dz_28 (kin0 (p := 4) kRcL_yearOrder_eq rfl)
theorem dL_yearOrder_5 : decode cL_yearOrder 5 = .ok (.iload_n 3, 1) := dz_29 (kin0 (p := 5) kRcL_yearOrder_eq rfl)
theorem dL_yearOrder_6 : decode cL_yearOrder 6 = .ok (.invokevirtual 147, 3) := dz_182 (kin0 (p := 6) kRcL_yearOrder_eq rfl) (kin0 (p := 7) kRcL_yearOrder_eq rfl) (kin0 (p := 8) kRcL_yearOrder_eq rfl) rfl
theorem dL_yearOrder_9 : decode cL_yearOrder 9 = .ok (.i2l, 1) := dz_133 (kin0 (p := 9) kRcL_yearOrder_eq rfl)
theorem dL_yearOrder_10 : decode cL_yearOrder 10 = .ok (.putfield 13, 3) := dz_181 (kin0 (p := 10) kRcL_yearOrder_eq rfl) (kin0 (p := 11) kRcL_yearOrder_eq rfl) (kin0 (p := 12) kRcL_yearOrder_eq rfl) rfl
theorem dL_yearOrder_13 : decode cL_yearOrder 13 = .ok (.goto 11, 3) := dz_167 (kin0 (p := 13) kRcL_yearOrder_eq rfl) (kin0 (p := 14) kRcL_yearOrder_eq rfl) (kin0 (p := 15) kRcL_yearOrder_eq rfl) rfl
theorem dL_yearOrder_16 : decode cL_yearOrder 16 = .ok (.astore 5, 2) := dz_58 (kin0 (p := 16) kRcL_yearOrder_eq rfl) (kin0 (p := 17) kRcL_yearOrder_eq rfl)
theorem dL_yearOrder_18 : decode cL_yearOrder 18 = .ok (.iconst 1, 1) := dz_4 (kin0 (p := 18) kRcL_yearOrder_eq rfl)
theorem dL_yearOrder_19 : decode cL_yearOrder 19 = .ok (.ireturn, 1) := dz_172 (kin0 (p := 19) kRcL_yearOrder_eq rfl)
theorem dL_yearOrder_20 : decode cL_yearOrder 20 = .ok (.astore 5, 2) := dz_58 (kin0 (p := 20) kRcL_yearOrder_eq rfl) (kin0 (p := 21) kRcL_yearOrder_eq rfl)
theorem dL_yearOrder_22 : decode cL_yearOrder 22 = .ok (.iconst 2, 1) := dz_5 (kin0 (p := 22) kRcL_yearOrder_eq rfl)
theorem dL_yearOrder_23 : decode cL_yearOrder 23 = .ok (.ireturn, 1) := dz_172 (kin0 (p := 23) kRcL_yearOrder_eq rfl)
theorem dL_yearOrder_24 : decode cL_yearOrder 24 = .ok (.iconst 0, 1) := dz_3 (kin0 (p := 24) kRcL_yearOrder_eq rfl)
theorem dL_yearOrder_25 : decode cL_yearOrder 25 = .ok (.ireturn, 1) := dz_172 (kin0 (p := 25) kRcL_yearOrder_eq rfl)
def kCcL_isYear_0 : List Nat := [25, 4, 42, 27, 28, 29, 182, 0, 150, 153, 0, 7, 10, 167, 0, 4, 9, 181, 0, 13, 167, 0, 11, 58, 5, 4, 172, 58, 5, 5, 172, 3]
def kCcL_isYear_1 : List Nat := [172]
def kRcL_isYear_2 : List Nat := []
def kRcL_isYear_1 : List Nat := kCcL_isYear_1 ++ kRcL_isYear_2
def kRcL_isYear_0 : List Nat := kCcL_isYear_0 ++ kRcL_isYear_1
theorem kRcL_isYear_eq : cL_isYear.data.toList.map UInt8.toNat = kRcL_isYear_0 := by decide +kernel
theorem katcL_isYear_0 (i : Nat) : (cL_isYear.data.toList.map UInt8.toNat)[0 + i]? = kRcL_isYear_0[i]? := by rw [kRcL_isYear_eq, Nat.zero_add]
theorem katcL_isYear_1 : ∀ i : Nat, (cL_isYear.data.toList.map UInt8.toNat)[32 + i]? = kRcL_isYear_1[i]? := kstep katcL_isYear_0 (C := kCcL_isYear_0) rfl rfl
theorem kBcL_isYear_0 {b : Nat} (p : Nat) (hp : Nat.ble 0 p = true) (h : kCcL_isYear_0[p - 0]? = some b) : kb cL_isYear p b := kin katcL_isYear_0 rfl hp h
theorem kBcL_isYear_1 {b : Nat} (p : Nat) (hp : Nat.ble 32 p = true) (h : kCcL_isYear_1[p - 32]? = some b) : kb cL_isYear p b := kin katcL_isYear_1 rfl hp h
theorem dL_isYear_0 : decode cL_isYear 0 = .ok (.aload 4, 2) := dz_25 (kBcL_isYear_0 0 rfl rfl) (kBcL_isYear_0 1 rfl rfl)
theorem dL_isYear_2 : decode cL_isYear 2 = .ok (.aload_n 0, 1) := dz_42 (kBcL_isYear_0 2 rfl rfl)
theorem dL_isYear_3 : decode cL_isYear 3 = .ok (.iload_n 1, 1) := dz_27 (kBcL_isYear_0 3 rfl rfl)
theorem dL_isYear_4 : decode cL_isYear 4 = .ok (.iload_n 2, 1) := dz_28 (kBcL_isYear_0 4 rfl rfl)
theorem dL_isYear_5 : decode cL_isYear 5 = .ok (.iload_n 3, 1) := dz_29 (kBcL_isYear_0 5 rfl rfl)
theorem dL_isYear_6 : decode cL_isYear 6 = .ok (.invokevirtual 150, 3) := dz_182 (kBcL_isYear_0 6 rfl rfl) (kBcL_isYear_0 7 rfl rfl) (kBcL_isYear_0 8 rfl rfl) rfl
theorem dL_isYear_9 : decode cL_isYear 9 = .ok (.ifCond .eq 7, 3) := dz_153 (kBcL_isYear_0 9 rfl rfl) (kBcL_isYear_0 10 rfl rfl) (kBcL_isYear_0 11 rfl rfl) rfl
theorem dL_isYear_12 : decode cL_isYear 12 = .ok (.lconst 1, 1) := dz_10 (kBcL_isYear_0 12 rfl rfl)
theorem dL_isYear_13 : decode cL_isYear 13 = .ok (.goto 4, 3) := dz_167 (kBcL_isYear_0 13 rfl rfl) (kBcL_isYear_0 14 rfl rfl) (kBcL_isYear_0 15 rfl rfl) rfl
theorem dL_isYear_16 : decode cL_isYear 16 = .ok (.lconst 0, 1) := dz_9 (kBcL_isYear_0 16 rfl rfl)
theorem dL_isYear_17 : decode cL_isYear 17 = .ok (.putfield 13, 3) := dz_181 (kBcL_isYear_0 17 rfl rfl) (kBcL_isYear_0 18 rfl rfl) (kBcL_isYear_0 19 rfl rfl) rfl
theorem dL_isYear_20 : decode cL_isYear 20 = .ok (.goto 11, 3) := dz_167 (kBcL_isYear_0 20 rfl rfl) (kBcL_isYear_0 21 rfl rfl) (kBcL_isYear_0 22 rfl rfl) rfl
theorem dL_isYear_23 : decode cL_isYear 23 = .ok (.astore 5, 2) := dz_58 (kBcL_isYear_0 23 rfl rfl) (kBcL_isYear_0 24 rfl rfl)
theorem dL_isYear_25 : decode cL_isYear 25 = .ok (.iconst 1, 1) := dz_4 (kBcL_isYear_0 25 rfl rfl)
theorem dL_isYear_26 : decode cL_isYear 26 = .ok (.ireturn, 1) := dz_172 (kBcL_isYear_0 26 rfl rfl)
theorem dL_isYear_27 : decode cL_isYear 27 = .ok (.astore 5, 2) := dz_58 (kBcL_isYear_0 27 rfl rfl) (kBcL_isYear_0 28 rfl rfl)
theorem dL_isYear_29 : decode cL_isYear 29 = .ok (.iconst 2, 1) := dz_5 (kBcL_isYear_0 29 rfl rfl)
theorem dL_isYear_30 : decode cL_isYear 30 = .ok (.ireturn, 1) := dz_172 (kBcL_isYear_0 30 rfl rfl)
theorem dL_isYear_31 : decode cL_isYear 31 = .ok (.iconst 0, 1) := dz_3 (kBcL_isYear_0 31 rfl rfl)
theorem dL_isYear_32 : decode cL_isYear 32 = .ok (.ireturn, 1) := dz_172 (kBcL_isYear_1 32 rfl rfl)
def kCcL_yearTo_0 : List Nat := [25, 5, 42, 27, 28, 29, 21, 4, 182, 0, 153, 181, 0, 121, 167, 0, 11, 58, 6, 4, 172, 58, 6, 5, 172, 3, 172]
theorem kRcL_yearTo_eq : cL_yearTo.data.toList.map UInt8.toNat = kCcL_yearTo_0 := by decide +kernel
theorem dL_yearTo_0 : decode cL_yearTo 0 = .ok (.aload 5, 2) := dz_25 (kin0 (p := 0) kRcL_yearTo_eq rfl) (kin0 (p := 1) kRcL_yearTo_eq rfl)
theorem dL_yearTo_2 : decode cL_yearTo 2 = .ok (.aload_n 0, 1) := dz_42 (kin0 (p := 2) kRcL_yearTo_eq rfl)
theorem dL_yearTo_3 : decode cL_yearTo 3 = .ok (.iload_n 1, 1) := dz_27 (kin0 (p := 3) kRcL_yearTo_eq rfl)
theorem dL_yearTo_4 : decode cL_yearTo 4 = .ok (.iload_n 2, 1) := dz_28 (kin0 (p := 4) kRcL_yearTo_eq rfl)
theorem dL_yearTo_5 : decode cL_yearTo 5 = .ok (.iload_n 3, 1) := dz_29 (kin0 (p := 5) kRcL_yearTo_eq rfl)
theorem dL_yearTo_6 : decode cL_yearTo 6 = .ok (.iload 4, 2) := dz_21 (kin0 (p := 6) kRcL_yearTo_eq rfl) (kin0 (p := 7) kRcL_yearTo_eq rfl)
theorem dL_yearTo_8 : decode cL_yearTo 8 = .ok (.invokevirtual 153, 3) := dz_182 (kin0 (p := 8) kRcL_yearTo_eq rfl) (kin0 (p := 9) kRcL_yearTo_eq rfl) (kin0 (p := 10) kRcL_yearTo_eq rfl) rfl
theorem dL_yearTo_11 : decode cL_yearTo 11 = .ok (.putfield 121, 3) := dz_181 (kin0 (p := 11) kRcL_yearTo_eq rfl) (kin0 (p := 12) kRcL_yearTo_eq rfl) (kin0 (p := 13) kRcL_yearTo_eq rfl) rfl
theorem dL_yearTo_14 : decode cL_yearTo 14 = .ok (.goto 11, 3) := dz_167 (kin0 (p := 14) kRcL_yearTo_eq rfl) (kin0 (p := 15) kRcL_yearTo_eq rfl) (kin0 (p := 16) kRcL_yearTo_eq rfl) rfl
theorem dL_yearTo_17 : decode cL_yearTo 17 = .ok (.astore 6, 2) := dz_58 (kin0 (p := 17) kRcL_yearTo_eq rfl) (kin0 (p := 18) kRcL_yearTo_eq rfl)
theorem dL_yearTo_19 : decode cL_yearTo 19 = .ok (.iconst 1, 1) := dz_4 (kin0 (p := 19) kRcL_yearTo_eq rfl)
theorem dL_yearTo_20 : decode cL_yearTo 20 = .ok (.ireturn, 1) := dz_172 (kin0 (p := 20) kRcL_yearTo_eq rfl)
theorem dL_yearTo_21 : decode cL_yearTo 21 = .ok (.astore 6, 2) := dz_58 (kin0 (p := 21) kRcL_yearTo_eq rfl) (kin0 (p := 22) kRcL_yearTo_eq rfl)
theorem dL_yearTo_23 : decode cL_yearTo 23 = .ok (.iconst 2, 1) := dz_5 (kin0 (p := 23) kRcL_yearTo_eq rfl)
theorem dL_yearTo_24 : decode cL_yearTo 24 = .ok (.ireturn, 1) := dz_172 (kin0 (p := 24) kRcL_yearTo_eq rfl)
theorem dL_yearTo_25 : decode cL_yearTo 25 = .ok (.iconst 0, 1) := dz_3 (kin0 (p := 25) kRcL_yearTo_eq rfl)
theorem dL_yearTo_26 : decode cL_yearTo 26 = .ok (.ireturn, 1) := dz_172 (kin0 (p := 26) kRcL_yearTo_eq rfl)
def kCcL_ofFeast_0 : List Nat := [45, 42, 27, 28, 182, 0, 156, 133, 181, 0, 13, 167, 0, 11, 58, 4, 4, 172, 58, 4, 5, 172, 3, 172]
theorem kRcL_ofFeast_eq : cL_ofFeast.data.toList.map UInt8.toNat = kCcL_ofFeast_0 := by decide +kernel
theorem dL_ofFeast_0 : decode cL_ofFeast 0 = .ok (.aload_n 3, 1) := dz_45 (kin0 (p := 0) kRcL_ofFeast_eq rfl)
theorem dL_ofFeast_1 : decode cL_ofFeast 1 = .ok (.aload_n 0, 1) := dz_42 (kin0 (p := 1) kRcL_ofFeast_eq rfl)
theorem dL_ofFeast_2 : decode cL_ofFeast 2 = .ok (.iload_n 1, 1) := dz_27 (kin0 (p := 2) kRcL_ofFeast_eq rfl)
theorem dL_ofFeast_3 : decode cL_ofFeast 3 = .ok (.iload_n 2, 1) := dz_28 (kin0 (p := 3) kRcL_ofFeast_eq rfl)
theorem dL_ofFeast_4 : decode cL_ofFeast 4 = .ok (.invokevirtual 156, 3) := dz_182 (kin0 (p := 4) kRcL_ofFeast_eq rfl) (kin0 (p := 5) kRcL_ofFeast_eq rfl) (kin0 (p := 6) kRcL_ofFeast_eq rfl) rfl
theorem dL_ofFeast_7 : decode cL_ofFeast 7 = .ok (.i2l, 1) := dz_133 (kin0 (p := 7) kRcL_ofFeast_eq rfl)
theorem dL_ofFeast_8 : decode cL_ofFeast 8 = .ok (.putfield 13, 3) := dz_181 (kin0 (p := 8) kRcL_ofFeast_eq rfl) (kin0 (p := 9) kRcL_ofFeast_eq rfl) (kin0 (p := 10) kRcL_ofFeast_eq rfl) rfl
theorem dL_ofFeast_11 : decode cL_ofFeast 11 = .ok (.goto 11, 3) := dz_167 (kin0 (p := 11) kRcL_ofFeast_eq rfl) (kin0 (p := 12) kRcL_ofFeast_eq rfl) (kin0 (p := 13) kRcL_ofFeast_eq rfl) rfl
theorem dL_ofFeast_14 : decode cL_ofFeast 14 = .ok (.astore 4, 2) := dz_58 (kin0 (p := 14) kRcL_ofFeast_eq rfl) (kin0 (p := 15) kRcL_ofFeast_eq rfl)
theorem dL_ofFeast_16 : decode cL_ofFeast 16 = .ok (.iconst 1, 1) := dz_4 (kin0 (p := 16) kRcL_ofFeast_eq rfl)
theorem dL_ofFeast_17 : decode cL_ofFeast 17 = .ok (.ireturn, 1) := dz_172 (kin0 (p := 17) kRcL_ofFeast_eq rfl)
theorem dL_ofFeast_18 : decode cL_ofFeast 18 = .ok (.astore 4, 2) := dz_58 (kin0 (p := 18) kRcL_ofFeast_eq rfl) (kin0 (p := 19) kRcL_ofFeast_eq rfl)
theorem dL_ofFeast_20 : decode cL_ofFeast 20 = .ok (.iconst 2, 1) := dz_5 (kin0 (p := 20) kRcL_ofFeast_eq rfl)
theorem dL_ofFeast_21 : decode cL_ofFeast 21 = .ok (.ireturn, 1) := dz_172 (kin0 (p := 21) kRcL_ofFeast_eq rfl)
theorem dL_ofFeast_22 : decode cL_ofFeast 22 = .ok (.iconst 0, 1) := dz_3 (kin0 (p := 22) kRcL_ofFeast_eq rfl)
theorem dL_ofFeast_23 : decode cL_ofFeast 23 = .ok (.ireturn, 1) := dz_172 (kin0 (p := 23) kRcL_ofFeast_eq rfl)
def kCcL_isInYear_0 : List Nat := [45, 42, 27, 28, 182, 0, 159, 153, 0, 7, 10, 167, 0, 4, 9, 181, 0, 13, 167, 0, 11, 58, 4, 4, 172, 58, 4, 5, 172, 3, 172]
theorem kRcL_isInYear_eq : cL_isInYear.data.toList.map UInt8.toNat = kCcL_isInYear_0 := by decide +kernel
theorem dL_isInYear_0 : decode cL_isInYear 0 = .ok (.aload_n 3, 1) := dz_45 (kin0 (p := 0) kRcL_isInYear_eq rfl)
theorem dL_isInYear_1 : decode cL_isInYear 1 = .ok (.aload_n 0, 1) := dz_42 (kin0 (p := 1) kRcL_isInYear_eq rfl)
theorem dL_isInYear_2 : decode cL_isInYear 2 = .ok (.iload_n 1, 1) := dz_27 (kin0 (p := 2) kRcL_isInYear_eq rfl)
theorem dL_isInYear_3 : decode cL_isInYear 3 = .ok (.iload_n 2, 1) := dz_28 (kin0 (p := 3) kRcL_isInYear_eq rfl)
theorem dL_isInYear_4 : decode cL_isInYear 4 = .ok (.invokevirtual 159, 3) := dz_182 (kin0 (p := 4) kRcL_isInYear_eq rfl) (kin0 (p := 5) kRcL_isInYear_eq rfl) (kin0 (p := 6) kRcL_isInYear_eq rfl) rfl
theorem dL_isInYear_7 : decode cL_isInYear 7 = .ok (.ifCond .eq 7, 3) := dz_153 (kin0 (p := 7) kRcL_isInYear_eq rfl) (kin0 (p := 8) kRcL_isInYear_eq rfl) (kin0 (p := 9) kRcL_isInYear_eq rfl) rfl
theorem dL_isInYear_10 : decode cL_isInYear 10 = .ok (.lconst 1, 1) := dz_10 (kin0 (p := 10) kRcL_isInYear_eq rfl)
theorem dL_isInYear_11 : decode cL_isInYear 11 = .ok (.goto 4, 3) := dz_167 (kin0 (p := 11) kRcL_isInYear_eq rfl) (kin0 (p := 12) kRcL_isInYear_eq rfl) (kin0 (p := 13) kRcL_isInYear_eq rfl) rfl
theorem dL_isInYear_14 : decode cL_isInYear 14 = .ok (.lconst 0, 1) := dz_9 (kin0 (p := 14) kRcL_isInYear_eq rfl)
theorem dL_isInYear_15 : decode cL_isInYear 15 = .ok (.putfield 13, 3) := dz_181 (kin0 (p := 15) kRcL_isInYear_eq rfl) (kin0 (p := 16) kRcL_isInYear_eq rfl) (kin0 (p := 17) kRcL_isInYear_eq rfl) rfl
theorem dL_isInYear_18 : decode cL_isInYear 18 = .ok (.goto 11, 3) := dz_167 (kin0 (p := 18) kRcL_isInYear_eq rfl) (kin0 (p := 19) kRcL_isInYear_eq rfl) (kin0 (p := 20) kRcL_isInYear_eq rfl) rfl
theorem dL_isInYear_21 : decode cL_isInYear 21 = .ok (.astore 4, 2) := dz_58 (kin0 (p := 21) kRcL_isInYear_eq rfl) (kin0 (p := 22) kRcL_isInYear_eq rfl)
theorem dL_isInYear_23 : decode cL_isInYear 23 = .ok (.iconst 1, 1) := dz_4 (kin0 (p := 23) kRcL_isInYear_eq rfl)
theorem dL_isInYear_24 : decode cL_isInYear 24 = .ok (.ireturn, 1) := dz_172 (kin0 (p := 24) kRcL_isInYear_eq rfl)
theorem dL_isInYear_25 : decode cL_isInYear 25 = .ok (.astore 4, 2) := dz_58 (kin0 (p := 25) kRcL_isInYear_eq rfl) (kin0 (p := 26) kRcL_isInYear_eq rfl)
theorem dL_isInYear_27 : decode cL_isInYear 27 = .ok (.iconst 2, 1) := dz_5 (kin0 (p := 27) kRcL_isInYear_eq rfl)
theorem dL_isInYear_28 : decode cL_isInYear 28 = .ok (.ireturn, 1) := dz_172 (kin0 (p := 28) kRcL_isInYear_eq rfl)
theorem dL_isInYear_29 : decode cL_isInYear 29 = .ok (.iconst 0, 1) := dz_3 (kin0 (p := 29) kRcL_isInYear_eq rfl)
theorem dL_isInYear_30 : decode cL_isInYear 30 = .ok (.ireturn, 1) := dz_172 (kin0 (p := 30) kRcL_isInYear_eq rfl)
def kCcL_feastOrder_0 : List Nat := [25, 4, 42, 27, 28, 29, 182, 0, 162, 133, 181, 0, 13, 167, 0, 11, 58, 5, 4, 172, 58, 5, 5, 172, 3, 172]
theorem kRcL_feastOrder_eq : cL_feastOrder.data.toList.map UInt8.toNat = kCcL_feastOrder_0 := by decide +kernel
theorem dL_feastOrder_0 : decode cL_feastOrder 0 = .ok (.aload 4, 2) := dz_25 (kin0 (p := 0) kRcL_feastOrder_eq rfl) (kin0 (p := 1) kRcL_feastOrder_eq rfl)
theorem dL_feastOrder_2 : decode cL_feastOrder 2 = .ok (.aload_n 0, 1) := dz_42 (kin0 (p := 2) kRcL_feastOrder_eq rfl)
theorem dL_feastOrder_3 : decode cL_feastOrder 3 = .ok (.iload_n 1, 1) := dz_27 (kin0 (p := 3) kRcL_feastOrder_eq rfl)
theorem dL_feastOrder_4 : decode cL_feastOrder 4 = .ok (.iload_n 2, 1) := dz_28 (kin0 (p := 4) kRcL_feastOrder_eq rfl)
theorem dL_feastOrder_5 : decode cL_feastOrder 5 = .ok (.iload_n 3, 1) := dz_29 (kin0 (p := 5) kRcL_feastOrder_eq rfl)
theorem dL_feastOrder_6 : decode cL_feastOrder 6 = .ok (.invokevirtual 162, 3) := dz_182 (kin0 (p := 6) kRcL_feastOrder_eq rfl) (kin0 (p := 7) kRcL_feastOrder_eq rfl) (kin0 (p := 8) kRcL_feastOrder_eq rfl) rfl
theorem dL_feastOrder_9 : decode cL_feastOrder 9 = .ok (.i2l, 1) := dz_133 (kin0 (p := 9) kRcL_feastOrder_eq rfl)
theorem dL_feastOrder_10 : decode cL_feastOrder 10 = .ok (.putfield 13, 3) := dz_181 (kin0 (p := 10) kRcL_feastOrder_eq rfl) (kin0 (p := 11) kRcL_feastOrder_eq rfl) (kin0 (p := 12) kRcL_feastOrder_eq rfl) rfl
theorem dL_feastOrder_13 : decode cL_feastOrder 13 = .ok (.goto 11, 3) := dz_167 (kin0 (p := 13) kRcL_feastOrder_eq rfl) (kin0 (p := 14) kRcL_feastOrder_eq rfl) (kin0 (p := 15) kRcL_feastOrder_eq rfl) rfl
theorem dL_feastOrder_16 : decode cL_feastOrder 16 = .ok (.astore 5, 2) := dz_58 (kin0 (p := 16) kRcL_feastOrder_eq rfl) (kin0 (p := 17) kRcL_feastOrder_eq rfl)
theorem dL_feastOrder_18 : decode cL_feastOrder 18 = .ok (.iconst 1, 1) := dz_4 (kin0 (p := 18) kRcL_feastOrder_eq rfl)
theorem dL_feastOrder_19 : decode cL_feastOrder 19 = .ok (.ireturn, 1) := dz_172 (kin0 (p := 19) kRcL_feastOrder_eq rfl)
theorem dL_feastOrder_20 : decode cL_feastOrder 20 = .ok (.astore 5, 2) := dz_58 (kin0 (p := 20) kRcL_feastOrder_eq rfl) (kin0 (p := 21) kRcL_feastOrder_eq rfl)
theorem dL_feastOrder_22 : decode cL_feastOrder 22 = .ok (.iconst 2, 1) := dz_5 (kin0 (p := 22) kRcL_feastOrder_eq rfl)
theorem dL_feastOrder_23 : decode cL_feastOrder 23 = .ok (.ireturn, 1) := dz_172 (kin0 (p := 23) kRcL_feastOrder_eq rfl)
theorem dL_feastOrder_24 : decode cL_feastOrder 24 = .ok (.iconst 0, 1) := dz_3 (kin0 (p := 24) kRcL_feastOrder_eq rfl)
theorem dL_feastOrder_25 : decode cL_feastOrder 25 = .ok (.ireturn, 1) := dz_172 (kin0 (p := 25) kRcL_feastOrder_eq rfl)
def kCcL_isFeast_0 : List Nat := [25, 4, 42, 27, 28, 29, 182, 0, 165, 153, 0, 7, 10, 167, 0, 4, 9, 181, 0, 13, 167, 0, 11, 58, 5, 4, 172, 58, 5, 5, 172, 3]
def kCcL_isFeast_1 : List Nat := [172]
def kRcL_isFeast_2 : List Nat := []
def kRcL_isFeast_1 : List Nat := kCcL_isFeast_1 ++ kRcL_isFeast_2
def kRcL_isFeast_0 : List Nat := kCcL_isFeast_0 ++ kRcL_isFeast_1
theorem kRcL_isFeast_eq : cL_isFeast.data.toList.map UInt8.toNat = kRcL_isFeast_0 := by decide +kernel
theorem katcL_isFeast_0 (i : Nat) : (cL_isFeast.data.toList.map UInt8.toNat)[0 + i]? = kRcL_isFeast_0[i]? := by rw [kRcL_isFeast_eq, Nat.zero_add]
theorem katcL_isFeast_1 : ∀ i : Nat, (cL_isFeast.data.toList.map UInt8.toNat)[32 + i]? = kRcL_isFeast_1[i]? := kstep katcL_isFeast_0 (C := kCcL_isFeast_0) rfl rfl
theorem kBcL_isFeast_0 {b : Nat} (p : Nat) (hp : Nat.ble 0 p = true) (h : kCcL_isFeast_0[p - 0]? = some b) : kb cL_isFeast p b := kin katcL_isFeast_0 rfl hp h
theorem kBcL_isFeast_1 {b : Nat} (p : Nat) (hp : Nat.ble 32 p = true) (h : kCcL_isFeast_1[p - 32]? = some b) : kb cL_isFeast p b := kin katcL_isFeast_1 rfl hp h
theorem dL_isFeast_0 : decode cL_isFeast 0 = .ok (.aload 4, 2) := dz_25 (kBcL_isFeast_0 0 rfl rfl) (kBcL_isFeast_0 1 rfl rfl)
theorem dL_isFeast_2 : decode cL_isFeast 2 = .ok (.aload_n 0, 1) := dz_42 (kBcL_isFeast_0 2 rfl rfl)
theorem dL_isFeast_3 : decode cL_isFeast 3 = .ok (.iload_n 1, 1) := dz_27 (kBcL_isFeast_0 3 rfl rfl)
theorem dL_isFeast_4 : decode cL_isFeast 4 = .ok (.iload_n 2, 1) := dz_28 (kBcL_isFeast_0 4 rfl rfl)
theorem dL_isFeast_5 : decode cL_isFeast 5 = .ok (.iload_n 3, 1) := dz_29 (kBcL_isFeast_0 5 rfl rfl)
theorem dL_isFeast_6 : decode cL_isFeast 6 = .ok (.invokevirtual 165, 3) := dz_182 (kBcL_isFeast_0 6 rfl rfl) (kBcL_isFeast_0 7 rfl rfl) (kBcL_isFeast_0 8 rfl rfl) rfl
theorem dL_isFeast_9 : decode cL_isFeast 9 = .ok (.ifCond .eq 7, 3) := dz_153 (kBcL_isFeast_0 9 rfl rfl) (kBcL_isFeast_0 10 rfl rfl) (kBcL_isFeast_0 11 rfl rfl) rfl
theorem dL_isFeast_12 : decode cL_isFeast 12 = .ok (.lconst 1, 1) := dz_10 (kBcL_isFeast_0 12 rfl rfl)
theorem dL_isFeast_13 : decode cL_isFeast 13 = .ok (.goto 4, 3) := dz_167 (kBcL_isFeast_0 13 rfl rfl) (kBcL_isFeast_0 14 rfl rfl) (kBcL_isFeast_0 15 rfl rfl) rfl
theorem dL_isFeast_16 : decode cL_isFeast 16 = .ok (.lconst 0, 1) := dz_9 (kBcL_isFeast_0 16 rfl rfl)
theorem dL_isFeast_17 : decode cL_isFeast 17 = .ok (.putfield 13, 3) := dz_181 (kBcL_isFeast_0 17 rfl rfl) (kBcL_isFeast_0 18 rfl rfl) (kBcL_isFeast_0 19 rfl rfl) rfl
theorem dL_isFeast_20 : decode cL_isFeast 20 = .ok (.goto 11, 3) := dz_167 (kBcL_isFeast_0 20 rfl rfl) (kBcL_isFeast_0 21 rfl rfl) (kBcL_isFeast_0 22 rfl rfl) rfl
theorem dL_isFeast_23 : decode cL_isFeast 23 = .ok (.astore 5, 2) := dz_58 (kBcL_isFeast_0 23 rfl rfl) (kBcL_isFeast_0 24 rfl rfl)
theorem dL_isFeast_25 : decode cL_isFeast 25 = .ok (.iconst 1, 1) := dz_4 (kBcL_isFeast_0 25 rfl rfl)
theorem dL_isFeast_26 : decode cL_isFeast 26 = .ok (.ireturn, 1) := dz_172 (kBcL_isFeast_0 26 rfl rfl)
theorem dL_isFeast_27 : decode cL_isFeast 27 = .ok (.astore 5, 2) := dz_58 (kBcL_isFeast_0 27 rfl rfl) (kBcL_isFeast_0 28 rfl rfl)
theorem dL_isFeast_29 : decode cL_isFeast 29 = .ok (.iconst 2, 1) := dz_5 (kBcL_isFeast_0 29 rfl rfl)
theorem dL_isFeast_30 : decode cL_isFeast 30 = .ok (.ireturn, 1) := dz_172 (kBcL_isFeast_0 30 rfl rfl)
theorem dL_isFeast_31 : decode cL_isFeast 31 = .ok (.iconst 0, 1) := dz_3 (kBcL_isFeast_0 31 rfl rfl)
theorem dL_isFeast_32 : decode cL_isFeast 32 = .ok (.ireturn, 1) := dz_172 (kBcL_isFeast_1 32 rfl rfl)
def kCcL_ofDay_0 : List Nat := [45, 42, 27, 28, 182, 0, 168, 133, 181, 0, 13, 167, 0, 11, 58, 4, 4, 172, 58, 4, 5, 172, 3, 172]
theorem kRcL_ofDay_eq : cL_ofDay.data.toList.map UInt8.toNat = kCcL_ofDay_0 := by decide +kernel
theorem dL_ofDay_0 : decode cL_ofDay 0 = .ok (.aload_n 3, 1) := dz_45 (kin0 (p := 0) kRcL_ofDay_eq rfl)
theorem dL_ofDay_1 : decode cL_ofDay 1 = .ok (.aload_n 0, 1) := dz_42 (kin0 (p := 1) kRcL_ofDay_eq rfl)
theorem dL_ofDay_2 : decode cL_ofDay 2 = .ok (.iload_n 1, 1) := dz_27 (kin0 (p := 2) kRcL_ofDay_eq rfl)
theorem dL_ofDay_3 : decode cL_ofDay 3 = .ok (.iload_n 2, 1) := dz_28 (kin0 (p := 3) kRcL_ofDay_eq rfl)
theorem dL_ofDay_4 : decode cL_ofDay 4 = .ok (.invokevirtual 168, 3) := dz_182 (kin0 (p := 4) kRcL_ofDay_eq rfl) (kin0 (p := 5) kRcL_ofDay_eq rfl) (kin0 (p := 6) kRcL_ofDay_eq rfl) rfl
theorem dL_ofDay_7 : decode cL_ofDay 7 = .ok (.i2l, 1) := dz_133 (kin0 (p := 7) kRcL_ofDay_eq rfl)
theorem dL_ofDay_8 : decode cL_ofDay 8 = .ok (.putfield 13, 3) := dz_181 (kin0 (p := 8) kRcL_ofDay_eq rfl) (kin0 (p := 9) kRcL_ofDay_eq rfl) (kin0 (p := 10) kRcL_ofDay_eq rfl) rfl
theorem dL_ofDay_11 : decode cL_ofDay 11 = .ok (.goto 11, 3) := dz_167 (kin0 (p := 11) kRcL_ofDay_eq rfl) (kin0 (p := 12) kRcL_ofDay_eq rfl) (kin0 (p := 13) kRcL_ofDay_eq rfl) rfl
theorem dL_ofDay_14 : decode cL_ofDay 14 = .ok (.astore 4, 2) := dz_58 (kin0 (p := 14) kRcL_ofDay_eq rfl) (kin0 (p := 15) kRcL_ofDay_eq rfl)
theorem dL_ofDay_16 : decode cL_ofDay 16 = .ok (.iconst 1, 1) := dz_4 (kin0 (p := 16) kRcL_ofDay_eq rfl)
theorem dL_ofDay_17 : decode cL_ofDay 17 = .ok (.ireturn, 1) := dz_172 (kin0 (p := 17) kRcL_ofDay_eq rfl)
theorem dL_ofDay_18 : decode cL_ofDay 18 = .ok (.astore 4, 2) := dz_58 (kin0 (p := 18) kRcL_ofDay_eq rfl) (kin0 (p := 19) kRcL_ofDay_eq rfl)
theorem dL_ofDay_20 : decode cL_ofDay 20 = .ok (.iconst 2, 1) := dz_5 (kin0 (p := 20) kRcL_ofDay_eq rfl)
theorem dL_ofDay_21 : decode cL_ofDay 21 = .ok (.ireturn, 1) := dz_172 (kin0 (p := 21) kRcL_ofDay_eq rfl)
theorem dL_ofDay_22 : decode cL_ofDay 22 = .ok (.iconst 0, 1) := dz_3 (kin0 (p := 22) kRcL_ofDay_eq rfl)
theorem dL_ofDay_23 : decode cL_ofDay 23 = .ok (.ireturn, 1) := dz_172 (kin0 (p := 23) kRcL_ofDay_eq rfl)
def kCcL_number_0 : List Nat := [44, 42, 27, 182, 0, 171, 181, 0, 121, 167, 0, 6, 78, 4, 172, 3, 172]
theorem kRcL_number_eq : cL_number.data.toList.map UInt8.toNat = kCcL_number_0 := by decide +kernel
theorem dL_number_0 : decode cL_number 0 = .ok (.aload_n 2, 1) := dz_44 (kin0 (p := 0) kRcL_number_eq rfl)
theorem dL_number_1 : decode cL_number 1 = .ok (.aload_n 0, 1) := dz_42 (kin0 (p := 1) kRcL_number_eq rfl)
theorem dL_number_2 : decode cL_number 2 = .ok (.iload_n 1, 1) := dz_27 (kin0 (p := 2) kRcL_number_eq rfl)
theorem dL_number_3 : decode cL_number 3 = .ok (.invokevirtual 171, 3) := dz_182 (kin0 (p := 3) kRcL_number_eq rfl) (kin0 (p := 4) kRcL_number_eq rfl) (kin0 (p := 5) kRcL_number_eq rfl) rfl
theorem dL_number_6 : decode cL_number 6 = .ok (.putfield 121, 3) := dz_181 (kin0 (p := 6) kRcL_number_eq rfl) (kin0 (p := 7) kRcL_number_eq rfl) (kin0 (p := 8) kRcL_number_eq rfl) rfl
theorem dL_number_9 : decode cL_number 9 = .ok (.goto 6, 3) := dz_167 (kin0 (p := 9) kRcL_number_eq rfl) (kin0 (p := 10) kRcL_number_eq rfl) (kin0 (p := 11) kRcL_number_eq rfl) rfl
theorem dL_number_12 : decode cL_number 12 = .ok (.astore_n 3, 1) := dz_78 (kin0 (p := 12) kRcL_number_eq rfl)
theorem dL_number_13 : decode cL_number 13 = .ok (.iconst 1, 1) := dz_4 (kin0 (p := 13) kRcL_number_eq rfl)
theorem dL_number_14 : decode cL_number 14 = .ok (.ireturn, 1) := dz_172 (kin0 (p := 14) kRcL_number_eq rfl)
theorem dL_number_15 : decode cL_number 15 = .ok (.iconst 0, 1) := dz_3 (kin0 (p := 15) kRcL_number_eq rfl)
theorem dL_number_16 : decode cL_number 16 = .ok (.ireturn, 1) := dz_172 (kin0 (p := 16) kRcL_number_eq rfl)
def kCcL_dayOrder_0 : List Nat := [25, 4, 42, 27, 28, 29, 182, 0, 174, 133, 181, 0, 13, 167, 0, 11, 58, 5, 4, 172, 58, 5, 5, 172, 3, 172]
theorem kRcL_dayOrder_eq : cL_dayOrder.data.toList.map UInt8.toNat = kCcL_dayOrder_0 := by decide +kernel
theorem dL_dayOrder_0 : decode cL_dayOrder 0 = .ok (.aload 4, 2) := dz_25 (kin0 (p := 0) kRcL_dayOrder_eq rfl) (kin0 (p := 1) kRcL_dayOrder_eq rfl)
theorem dL_dayOrder_2 : decode cL_dayOrder 2 = .ok (.aload_n 0, 1) := dz_42 (kin0 (p := 2) kRcL_dayOrder_eq rfl)
theorem dL_dayOrder_3 : decode cL_dayOrder 3 = .ok (.iload_n 1, 1) := dz_27 (kin0 (p := 3) kRcL_dayOrder_eq rfl)
theorem dL_dayOrder_4 : decode cL_dayOrder 4 = .ok (.iload_n 2, 1) := dz_28 (kin0 (p := 4) kRcL_dayOrder_eq rfl)
theorem dL_dayOrder_5 : decode cL_dayOrder 5 = .ok (.iload_n 3, 1) := dz_29 (kin0 (p := 5) kRcL_dayOrder_eq rfl)
theorem dL_dayOrder_6 : decode cL_dayOrder 6 = .ok (.invokevirtual 174, 3) := dz_182 (kin0 (p := 6) kRcL_dayOrder_eq rfl) (kin0 (p := 7) kRcL_dayOrder_eq rfl) (kin0 (p := 8) kRcL_dayOrder_eq rfl) rfl
theorem dL_dayOrder_9 : decode cL_dayOrder 9 = .ok (.i2l, 1) := dz_133 (kin0 (p := 9) kRcL_dayOrder_eq rfl)
theorem dL_dayOrder_10 : decode cL_dayOrder 10 = .ok (.putfield 13, 3) := dz_181 (kin0 (p := 10) kRcL_dayOrder_eq rfl) (kin0 (p := 11) kRcL_dayOrder_eq rfl) (kin0 (p := 12) kRcL_dayOrder_eq rfl) rfl
theorem dL_dayOrder_13 : decode cL_dayOrder 13 = .ok (.goto 11, 3) := dz_167 (kin0 (p := 13) kRcL_dayOrder_eq rfl) (kin0 (p := 14) kRcL_dayOrder_eq rfl) (kin0 (p := 15) kRcL_dayOrder_eq rfl) rfl
theorem dL_dayOrder_16 : decode cL_dayOrder 16 = .ok (.astore 5, 2) := dz_58 (kin0 (p := 16) kRcL_dayOrder_eq rfl) (kin0 (p := 17) kRcL_dayOrder_eq rfl)
theorem dL_dayOrder_18 : decode cL_dayOrder 18 = .ok (.iconst 1, 1) := dz_4 (kin0 (p := 18) kRcL_dayOrder_eq rfl)
theorem dL_dayOrder_19 : decode cL_dayOrder 19 = .ok (.ireturn, 1) := dz_172 (kin0 (p := 19) kRcL_dayOrder_eq rfl)
theorem dL_dayOrder_20 : decode cL_dayOrder 20 = .ok (.astore 5, 2) := dz_58 (kin0 (p := 20) kRcL_dayOrder_eq rfl) (kin0 (p := 21) kRcL_dayOrder_eq rfl)
theorem dL_dayOrder_22 : decode cL_dayOrder 22 = .ok (.iconst 2, 1) := dz_5 (kin0 (p := 22) kRcL_dayOrder_eq rfl)
theorem dL_dayOrder_23 : decode cL_dayOrder 23 = .ok (.ireturn, 1) := dz_172 (kin0 (p := 23) kRcL_dayOrder_eq rfl)
theorem dL_dayOrder_24 : decode cL_dayOrder 24 = .ok (.iconst 0, 1) := dz_3 (kin0 (p := 24) kRcL_dayOrder_eq rfl)
theorem dL_dayOrder_25 : decode cL_dayOrder 25 = .ok (.ireturn, 1) := dz_172 (kin0 (p := 25) kRcL_dayOrder_eq rfl)
def kCcL_knows_0 : List Nat := [45, 42, 27, 28, 182, 0, 177, 153, 0, 7, 10, 167, 0, 4, 9, 181, 0, 13, 167, 0, 7, 58, 4, 4, 172, 3, 172]
theorem kRcL_knows_eq : cL_knows.data.toList.map UInt8.toNat = kCcL_knows_0 := by decide +kernel
theorem dL_knows_0 : decode cL_knows 0 = .ok (.aload_n 3, 1) := dz_45 (kin0 (p := 0) kRcL_knows_eq rfl)
theorem dL_knows_1 : decode cL_knows 1 = .ok (.aload_n 0, 1) := dz_42 (kin0 (p := 1) kRcL_knows_eq rfl)
theorem dL_knows_2 : decode cL_knows 2 = .ok (.iload_n 1, 1) := dz_27 (kin0 (p := 2) kRcL_knows_eq rfl)
theorem dL_knows_3 : decode cL_knows 3 = .ok (.iload_n 2, 1) := dz_28 (kin0 (p := 3) kRcL_knows_eq rfl)
theorem dL_knows_4 : decode cL_knows 4 = .ok (.invokevirtual 177, 3) := dz_182 (kin0 (p := 4) kRcL_knows_eq rfl) (kin0 (p := 5) kRcL_knows_eq rfl) (kin0 (p := 6) kRcL_knows_eq rfl) rfl
theorem dL_knows_7 : decode cL_knows 7 = .ok (.ifCond .eq 7, 3) := dz_153 (kin0 (p := 7) kRcL_knows_eq rfl) (kin0 (p := 8) kRcL_knows_eq rfl) (kin0 (p := 9) kRcL_knows_eq rfl) rfl
theorem dL_knows_10 : decode cL_knows 10 = .ok (.lconst 1, 1) := dz_10 (kin0 (p := 10) kRcL_knows_eq rfl)
theorem dL_knows_11 : decode cL_knows 11 = .ok (.goto 4, 3) := dz_167 (kin0 (p := 11) kRcL_knows_eq rfl) (kin0 (p := 12) kRcL_knows_eq rfl) (kin0 (p := 13) kRcL_knows_eq rfl) rfl
theorem dL_knows_14 : decode cL_knows 14 = .ok (.lconst 0, 1) := dz_9 (kin0 (p := 14) kRcL_knows_eq rfl)
theorem dL_knows_15 : decode cL_knows 15 = .ok (.putfield 13, 3) := dz_181 (kin0 (p := 15) kRcL_knows_eq rfl) (kin0 (p := 16) kRcL_knows_eq rfl) (kin0 (p := 17) kRcL_knows_eq rfl) rfl
theorem dL_knows_18 : decode cL_knows 18 = .ok (.goto 7, 3) := dz_167 (kin0 (p := 18) kRcL_knows_eq rfl) (kin0 (p := 19) kRcL_knows_eq rfl) (kin0 (p := 20) kRcL_knows_eq rfl) rfl
theorem dL_knows_21 : decode cL_knows 21 = .ok (.astore 4, 2) := dz_58 (kin0 (p := 21) kRcL_knows_eq rfl) (kin0 (p := 22) kRcL_knows_eq rfl)
theorem dL_knows_23 : decode cL_knows 23 = .ok (.iconst 1, 1) := dz_4 (kin0 (p := 23) kRcL_knows_eq rfl)
theorem dL_knows_24 : decode cL_knows 24 = .ok (.ireturn, 1) := dz_172 (kin0 (p := 24) kRcL_knows_eq rfl)
theorem dL_knows_25 : decode cL_knows 25 = .ok (.iconst 0, 1) := dz_3 (kin0 (p := 25) kRcL_knows_eq rfl)
theorem dL_knows_26 : decode cL_knows 26 = .ok (.ireturn, 1) := dz_172 (kin0 (p := 26) kRcL_knows_eq rfl)
def kCcL_house_0 : List Nat := [44, 42, 27, 182, 0, 180, 133, 181, 0, 13, 167, 0, 6, 78, 4, 172, 3, 172]
theorem kRcL_house_eq : cL_house.data.toList.map UInt8.toNat = kCcL_house_0 := by decide +kernel
theorem dL_house_0 : decode cL_house 0 = .ok (.aload_n 2, 1) := dz_44 (kin0 (p := 0) kRcL_house_eq rfl)
theorem dL_house_1 : decode cL_house 1 = .ok (.aload_n 0, 1) := dz_42 (kin0 (p := 1) kRcL_house_eq rfl)
theorem dL_house_2 : decode cL_house 2 = .ok (.iload_n 1, 1) := dz_27 (kin0 (p := 2) kRcL_house_eq rfl)
theorem dL_house_3 : decode cL_house 3 = .ok (.invokevirtual 180, 3) := dz_182 (kin0 (p := 3) kRcL_house_eq rfl) (kin0 (p := 4) kRcL_house_eq rfl) (kin0 (p := 5) kRcL_house_eq rfl) rfl
theorem dL_house_6 : decode cL_house 6 = .ok (.i2l, 1) := dz_133 (kin0 (p := 6) kRcL_house_eq rfl)
theorem dL_house_7 : decode cL_house 7 = .ok (.putfield 13, 3) := dz_181 (kin0 (p := 7) kRcL_house_eq rfl) (kin0 (p := 8) kRcL_house_eq rfl) (kin0 (p := 9) kRcL_house_eq rfl) rfl
theorem dL_house_10 : decode cL_house 10 = .ok (.goto 6, 3) := dz_167 (kin0 (p := 10) kRcL_house_eq rfl) (kin0 (p := 11) kRcL_house_eq rfl) (kin0 (p := 12) kRcL_house_eq rfl) rfl
theorem dL_house_13 : decode cL_house 13 = .ok (.astore_n 3, 1) := dz_78 (kin0 (p := 13) kRcL_house_eq rfl)
theorem dL_house_14 : decode cL_house 14 = .ok (.iconst 1, 1) := dz_4 (kin0 (p := 14) kRcL_house_eq rfl)
theorem dL_house_15 : decode cL_house 15 = .ok (.ireturn, 1) := dz_172 (kin0 (p := 15) kRcL_house_eq rfl)
theorem dL_house_16 : decode cL_house 16 = .ok (.iconst 0, 1) := dz_3 (kin0 (p := 16) kRcL_house_eq rfl)
theorem dL_house_17 : decode cL_house 17 = .ok (.ireturn, 1) := dz_172 (kin0 (p := 17) kRcL_house_eq rfl)
