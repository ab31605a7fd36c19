theorem dL_knows_25 : decode cL_knows 25 = .ok (.iconst 0, 1) := by decide +kernel
theorem dL_knows_26 : decode cL_knows 26 = .ok (.ireturn, 1) := by decide +kernel
theorem dL_house_0 : decode cL_house 0 = .ok (.aload_n 2, 1) := by decide +kernel
theorem dL_house_1 : decode cL_house 1 = .ok (.aload_n 0, 1) := by decide +kernel
theorem dL_house_2 : decode cL_house 2 = .ok (.iload_n 1, 1) := by decide +kernel
theorem dL_house_3 : decode cL_house 3 = .ok (.invokevirtual 180, 3) := by decide +kernel
theorem dL_house_6 : decode cL_house 6 = .ok (.i2l, 1) := by decide +kernel
theorem dL_house_7 : decode cL_house 7 = .ok (.putfield 13, 3) := by decide +kernel
theorem dL_house_10 : decode cL_house 10 = .ok (.goto 6, 3) := by decide +kernel
theorem dL_house_13 : decode cL_house 13 = .ok (.astore_n 3, 1) := by decide +kernel
theorem dL_house_14 : decode cL_house 14 = .ok (.iconst 1, 1) := by decide +kernel
theorem dL_house_15 : decode cL_house 15 = .ok (.ireturn, 1) := by decide +kernel
theorem dL_house_16 : decode cL_house 16 = .ok (.iconst 0, 1) := by decide +kernel
theorem dL_house_17 : decode cL_house 17 = .ok (.ireturn, 1) := by decide +kernel
