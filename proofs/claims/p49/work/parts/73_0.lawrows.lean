theorem dz_88 {cc : ByteArray} {pc : Nat} (h0 : kb cc pc 88) : decode cc pc = .ok (.pop2, 1) := by
  refine kdec (n := pc + 1) ((kbind h0).trans ?_) (by omega)
  rfl
def kCL_0 : List Nat := [187, 0, 8, 89, 183, 0, 184, 76, 187, 0, 185, 89, 183, 0, 187, 77, 187, 0, 14, 89, 183, 0, 188, 78, 3, 54, 4, 21, 4, 42, 190, 8]
def kCL_1 : List Nat := [100, 163, 11, 168, 42, 21, 4, 46, 16, 63, 126, 170, 0, 0, 11, 152, 0, 0, 0, 0, 0, 0, 0, 54, 0, 0, 0, 233, 0, 0, 1, 29]
def kCL_2 : List Nat := [0, 0, 1, 81, 0, 0, 1, 149, 0, 0, 1, 217, 0, 0, 2, 41, 0, 0, 2, 121, 0, 0, 2, 161, 0, 0, 2, 201, 0, 0, 2, 253]
def kCL_3 : List Nat := [0, 0, 3, 49, 0, 0, 3, 101, 0, 0, 3, 141, 0, 0, 3, 181, 0, 0, 3, 221, 0, 0, 4, 33, 0, 0, 4, 113, 0, 0, 4, 165]
def kCL_4 : List Nat := [0, 0, 4, 233, 0, 0, 5, 17, 0, 0, 5, 69, 0, 0, 5, 121, 0, 0, 5, 189, 0, 0, 6, 1, 0, 0, 6, 41, 0, 0, 6, 81]
def kCL_5 : List Nat := [0, 0, 6, 133, 0, 0, 6, 173, 0, 0, 6, 225, 0, 0, 7, 21, 0, 0, 7, 73, 0, 0, 7, 113, 0, 0, 7, 141, 0, 0, 7, 181]
def kCL_6 : List Nat := [0, 0, 7, 233, 0, 0, 8, 29, 0, 0, 8, 109, 0, 0, 8, 149, 0, 0, 8, 186, 0, 0, 8, 254, 0, 0, 9, 50, 0, 0, 9, 102]
def kCL_7 : List Nat := [0, 0, 9, 182, 0, 0, 9, 222, 0, 0, 10, 6, 0, 0, 10, 58, 0, 0, 10, 110, 0, 0, 10, 150, 0, 0, 10, 208, 0, 0, 11, 4]
def kCL_8 : List Nat := [0, 0, 11, 44, 0, 0, 11, 85, 0, 0, 11, 98, 0, 0, 11, 126, 0, 0, 11, 139, 43, 42, 21, 4, 4, 96, 46, 42, 21, 4, 5, 96]
def kCL_9 : List Nat := [46, 42, 21, 4, 6, 96, 46, 45, 184, 0, 189, 54, 5, 44, 42, 21, 4, 4, 96, 46, 42, 21, 4, 5, 96, 46, 42, 21, 4, 6, 96, 46]
def kCL_10 : List Nat := [182, 0, 194, 54, 6, 167, 10, 126, 43, 42, 21, 4, 4, 96, 46, 42, 21, 4, 5, 96, 46, 42, 21, 4, 6, 96, 46, 45, 184, 0, 195, 54]
def kCL_11 : List Nat := [5, 44, 42, 21, 4, 4, 96, 46, 42, 21, 4, 5, 96, 46, 42, 21, 4, 6, 96, 46, 182, 0, 197, 54, 6, 167, 10, 74, 43, 42, 21, 4]
def kCL_12 : List Nat := [4, 96, 46, 42, 21, 4, 5, 96, 46, 42, 21, 4, 6, 96, 46, 153, 0, 7, 4, 167, 0, 4, 3, 45, 184, 0, 198, 54, 5, 44, 42, 21]
def kCL_13 : List Nat := [4, 4, 96, 46, 42, 21, 4, 5, 96, 46, 42, 21, 4, 6, 96, 46, 153, 0, 7, 4, 167, 0, 4, 3, 182, 0, 201, 54, 6, 167, 10, 6]
def kCL_14 : List Nat := [43, 42, 21, 4, 4, 96, 46, 42, 21, 4, 5, 96, 46, 42, 21, 4, 6, 96, 46, 153, 0, 7, 4, 167, 0, 4, 3, 45, 184, 0, 202, 54]
def kCL_15 : List Nat := [5, 44, 42, 21, 4, 4, 96, 46, 42, 21, 4, 5, 96, 46, 42, 21, 4, 6, 96, 46, 153, 0, 7, 4, 167, 0, 4, 3, 182, 0, 204, 54]
def kCL_16 : List Nat := [6, 167, 9, 194, 43, 42, 21, 4, 4, 96, 46, 42, 21, 4, 5, 96, 46, 42, 21, 4, 6, 96, 46, 42, 21, 4, 7, 96, 46, 153, 0, 7]
def kCL_17 : List Nat := [4, 167, 0, 4, 3, 45, 184, 0, 205, 54, 5, 44, 42, 21, 4, 4, 96, 46, 42, 21, 4, 5, 96, 46, 42, 21, 4, 6, 96, 46, 42, 21]
def kCL_18 : List Nat := [4, 7, 96, 46, 153, 0, 7, 4, 167, 0, 4, 3, 182, 0, 208, 54, 6, 167, 9, 114, 43, 42, 21, 4, 4, 96, 46, 42, 21, 4, 5, 96]
def kCL_19 : List Nat := [46, 42, 21, 4, 6, 96, 46, 42, 21, 4, 7, 96, 46, 153, 0, 7, 4, 167, 0, 4, 3, 45, 184, 0, 209, 54, 5, 44, 42, 21, 4, 4]
def kCL_20 : List Nat := [96, 46, 42, 21, 4, 5, 96, 46, 42, 21, 4, 6, 96, 46, 42, 21, 4, 7, 96, 46, 153, 0, 7, 4, 167, 0, 4, 3, 182, 0, 211, 54]
def kCL_21 : List Nat := [6, 167, 9, 34, 43, 42, 21, 4, 4, 96, 46, 42, 21, 4, 5, 96, 46, 45, 184, 0, 212, 54, 5, 44, 42, 21, 4, 4, 96, 46, 42, 21]
def kCL_22 : List Nat := [4, 5, 96, 46, 182, 0, 215, 54, 6, 167, 8, 250, 43, 42, 21, 4, 4, 96, 46, 42, 21, 4, 5, 96, 46, 45, 184, 0, 216, 54, 5, 44]
def kCL_23 : List Nat := [42, 21, 4, 4, 96, 46, 42, 21, 4, 5, 96, 46, 182, 0, 218, 54, 6, 167, 8, 210, 43, 42, 21, 4, 4, 96, 46, 42, 21, 4, 5, 96]
def kCL_24 : List Nat := [46, 42, 21, 4, 6, 96, 46, 45, 184, 0, 219, 54, 5, 44, 42, 21, 4, 4, 96, 46, 42, 21, 4, 5, 96, 46, 42, 21, 4, 6, 96, 46]
def kCL_25 : List Nat := [182, 0, 221, 54, 6, 167, 8, 158, 43, 42, 21, 4, 4, 96, 46, 42, 21, 4, 5, 96, 46, 42, 21, 4, 6, 96, 46, 45, 184, 0, 222, 54]
def kCL_26 : List Nat := [5, 44, 42, 21, 4, 4, 96, 46, 42, 21, 4, 5, 96, 46, 42, 21, 4, 6, 96, 46, 182, 0, 224, 54, 6, 167, 8, 106, 43, 42, 21, 4]
def kCL_27 : List Nat := [4, 96, 46, 42, 21, 4, 5, 96, 46, 42, 21, 4, 6, 96, 46, 45, 184, 0, 225, 54, 5, 44, 42, 21, 4, 4, 96, 46, 42, 21, 4, 5]
def kCL_28 : List Nat := [96, 46, 42, 21, 4, 6, 96, 46, 182, 0, 227, 54, 6, 167, 8, 54, 43, 42, 21, 4, 4, 96, 46, 42, 21, 4, 5, 96, 46, 45, 184, 0]
def kCL_29 : List Nat := [228, 54, 5, 44, 42, 21, 4, 4, 96, 46, 42, 21, 4, 5, 96, 46, 182, 0, 230, 54, 6, 167, 8, 14, 43, 42, 21, 4, 4, 96, 46, 42]
def kCL_30 : List Nat := [21, 4, 5, 96, 46, 45, 184, 0, 231, 54, 5, 44, 42, 21, 4, 4, 96, 46, 42, 21, 4, 5, 96, 46, 182, 0, 233, 54, 6, 167, 7, 230]
def kCL_31 : List Nat := [43, 42, 21, 4, 4, 96, 46, 42, 21, 4, 5, 96, 46, 45, 184, 0, 234, 54, 5, 44, 42, 21, 4, 4, 96, 46, 42, 21, 4, 5, 96, 46]
def kCL_32 : List Nat := [182, 0, 236, 54, 6, 167, 7, 190, 43, 42, 21, 4, 4, 96, 46, 42, 21, 4, 5, 96, 46, 42, 21, 4, 6, 96, 46, 153, 0, 7, 4, 167]
def kCL_33 : List Nat := [0, 4, 3, 45, 184, 0, 237, 54, 5, 44, 42, 21, 4, 4, 96, 46, 42, 21, 4, 5, 96, 46, 42, 21, 4, 6, 96, 46, 153, 0, 7, 4]
def kCL_34 : List Nat := [167, 0, 4, 3, 182, 0, 239, 54, 6, 167, 7, 122, 43, 42, 21, 4, 4, 96, 46, 42, 21, 4, 5, 96, 46, 42, 21, 4, 6, 96, 46, 42]
def kCL_35 : List Nat := [21, 4, 7, 96, 46, 153, 0, 7, 4, 167, 0, 4, 3, 45, 184, 0, 240, 54, 5, 44, 42, 21, 4, 4, 96, 46, 42, 21, 4, 5, 96, 46]
def kCL_36 : List Nat := [42, 21, 4, 6, 96, 46, 42, 21, 4, 7, 96, 46, 153, 0, 7, 4, 167, 0, 4, 3, 182, 0, 242, 54, 6, 167, 7, 42, 43, 42, 21, 4]
def kCL_37 : List Nat := [4, 96, 46, 42, 21, 4, 5, 96, 46, 42, 21, 4, 6, 96, 46, 45, 184, 0, 243, 54, 5, 44, 42, 21, 4, 4, 96, 46, 42, 21, 4, 5]
def kCL_38 : List Nat := [96, 46, 42, 21, 4, 6, 96, 46, 182, 0, 245, 54, 6, 167, 6, 246, 43, 42, 21, 4, 4, 96, 46, 42, 21, 4, 5, 96, 46, 153, 0, 7]
def kCL_39 : List Nat := [4, 167, 0, 4, 3, 42, 21, 4, 6, 96, 46, 45, 184, 0, 246, 54, 5, 44, 42, 21, 4, 4, 96, 46, 42, 21, 4, 5, 96, 46, 153, 0]
def kCL_40 : List Nat := [7, 4, 167, 0, 4, 3, 42, 21, 4, 6, 96, 46, 182, 0, 249, 54, 6, 167, 6, 178, 43, 42, 21, 4, 4, 96, 46, 42, 21, 4, 5, 96]
def kCL_41 : List Nat := [46, 45, 184, 0, 250, 54, 5, 44, 42, 21, 4, 4, 96, 46, 42, 21, 4, 5, 96, 46, 182, 0, 252, 54, 6, 167, 6, 138, 43, 42, 21, 4]
def kCL_42 : List Nat := [4, 96, 46, 42, 21, 4, 5, 96, 46, 42, 21, 4, 6, 96, 46, 45, 184, 0, 253, 54, 5, 44, 42, 21, 4, 4, 96, 46, 42, 21, 4, 5]
def kCL_43 : List Nat := [96, 46, 42, 21, 4, 6, 96, 46, 182, 0, 255, 54, 6, 167, 6, 86, 43, 42, 21, 4, 4, 96, 46, 42, 21, 4, 5, 96, 46, 42, 21, 4]
def kCL_44 : List Nat := [6, 96, 46, 45, 184, 1, 0, 54, 5, 44, 42, 21, 4, 4, 96, 46, 42, 21, 4, 5, 96, 46, 42, 21, 4, 6, 96, 46, 182, 1, 2, 54]
def kCL_45 : List Nat := [6, 167, 6, 34, 43, 42, 21, 4, 4, 96, 46, 42, 21, 4, 5, 96, 46, 42, 21, 4, 6, 96, 46, 153, 0, 7, 4, 167, 0, 4, 3, 45]
def kCL_46 : List Nat := [184, 1, 3, 54, 5, 44, 42, 21, 4, 4, 96, 46, 42, 21, 4, 5, 96, 46, 42, 21, 4, 6, 96, 46, 153, 0, 7, 4, 167, 0, 4, 3]
def kCL_47 : List Nat := [182, 1, 5, 54, 6, 167, 5, 222, 43, 42, 21, 4, 4, 96, 46, 42, 21, 4, 5, 96, 46, 42, 21, 4, 6, 96, 46, 153, 0, 7, 4, 167]
def kCL_48 : List Nat := [0, 4, 3, 45, 184, 1, 6, 54, 5, 44, 42, 21, 4, 4, 96, 46, 42, 21, 4, 5, 96, 46, 42, 21, 4, 6, 96, 46, 153, 0, 7, 4]
def kCL_49 : List Nat := [167, 0, 4, 3, 182, 1, 8, 54, 6, 167, 5, 154, 43, 42, 21, 4, 4, 96, 46, 42, 21, 4, 5, 96, 46, 45, 184, 1, 9, 54, 5, 44]
def kCL_50 : List Nat := [42, 21, 4, 4, 96, 46, 42, 21, 4, 5, 96, 46, 182, 1, 11, 54, 6, 167, 5, 114, 43, 42, 21, 4, 4, 96, 46, 42, 21, 4, 5, 96]
def kCL_51 : List Nat := [46, 45, 184, 1, 12, 54, 5, 44, 42, 21, 4, 4, 96, 46, 42, 21, 4, 5, 96, 46, 182, 1, 14, 54, 6, 167, 5, 74, 43, 42, 21, 4]
def kCL_52 : List Nat := [4, 96, 46, 42, 21, 4, 5, 96, 46, 42, 21, 4, 6, 96, 46, 45, 184, 1, 15, 54, 5, 44, 42, 21, 4, 4, 96, 46, 42, 21, 4, 5]
def kCL_53 : List Nat := [96, 46, 42, 21, 4, 6, 96, 46, 182, 1, 17, 54, 6, 167, 5, 22, 43, 42, 21, 4, 4, 96, 46, 42, 21, 4, 5, 96, 46, 45, 184, 1]
def kCL_54 : List Nat := [18, 54, 5, 44, 42, 21, 4, 4, 96, 46, 42, 21, 4, 5, 96, 46, 182, 1, 20, 54, 6, 167, 4, 238, 43, 42, 21, 4, 4, 96, 46, 42]
def kCL_55 : List Nat := [21, 4, 5, 96, 46, 42, 21, 4, 6, 96, 46, 45, 184, 1, 21, 54, 5, 44, 42, 21, 4, 4, 96, 46, 42, 21, 4, 5, 96, 46, 42, 21]
def kCL_56 : List Nat := [4, 6, 96, 46, 182, 1, 23, 54, 6, 167, 4, 186, 43, 42, 21, 4, 4, 96, 46, 42, 21, 4, 5, 96, 46, 42, 21, 4, 6, 96, 46, 45]
def kCL_57 : List Nat := [184, 1, 24, 54, 5, 44, 42, 21, 4, 4, 96, 46, 42, 21, 4, 5, 96, 46, 42, 21, 4, 6, 96, 46, 182, 1, 26, 54, 6, 167, 4, 134]
def kCL_58 : List Nat := [43, 42, 21, 4, 4, 96, 46, 42, 21, 4, 5, 96, 46, 42, 21, 4, 6, 96, 46, 45, 184, 1, 27, 54, 5, 44, 42, 21, 4, 4, 96, 46]
def kCL_59 : List Nat := [42, 21, 4, 5, 96, 46, 42, 21, 4, 6, 96, 46, 182, 1, 29, 54, 6, 167, 4, 82, 43, 42, 21, 4, 4, 96, 46, 42, 21, 4, 5, 96]
def kCL_60 : List Nat := [46, 45, 184, 1, 30, 54, 5, 44, 42, 21, 4, 4, 96, 46, 42, 21, 4, 5, 96, 46, 182, 1, 32, 54, 6, 167, 4, 42, 43, 42, 21, 4]
def kCL_61 : List Nat := [4, 96, 46, 45, 184, 1, 33, 54, 5, 44, 42, 21, 4, 4, 96, 46, 182, 1, 36, 58, 6, 167, 4, 14, 43, 42, 21, 4, 4, 96, 46, 42]
def kCL_62 : List Nat := [21, 4, 5, 96, 46, 45, 184, 1, 37, 54, 5, 44, 42, 21, 4, 4, 96, 46, 42, 21, 4, 5, 96, 46, 182, 1, 39, 54, 6, 167, 3, 230]
def kCL_63 : List Nat := [43, 42, 21, 4, 4, 96, 46, 42, 21, 4, 5, 96, 46, 42, 21, 4, 6, 96, 46, 45, 184, 1, 40, 54, 5, 44, 42, 21, 4, 4, 96, 46]
def kCL_64 : List Nat := [42, 21, 4, 5, 96, 46, 42, 21, 4, 6, 96, 46, 182, 1, 42, 54, 6, 167, 3, 178, 43, 42, 21, 4, 4, 96, 46, 42, 21, 4, 5, 96]
def kCL_65 : List Nat := [46, 42, 21, 4, 6, 96, 46, 45, 184, 1, 43, 54, 5, 44, 42, 21, 4, 4, 96, 46, 42, 21, 4, 5, 96, 46, 42, 21, 4, 6, 96, 46]
def kCL_66 : List Nat := [182, 1, 45, 54, 6, 167, 3, 126, 43, 42, 21, 4, 4, 96, 46, 42, 21, 4, 5, 96, 46, 42, 21, 4, 6, 96, 46, 42, 21, 4, 7, 96]
def kCL_67 : List Nat := [46, 153, 0, 7, 4, 167, 0, 4, 3, 45, 184, 1, 46, 54, 5, 44, 42, 21, 4, 4, 96, 46, 42, 21, 4, 5, 96, 46, 42, 21, 4, 6]
def kCL_68 : List Nat := [96, 46, 42, 21, 4, 7, 96, 46, 153, 0, 7, 4, 167, 0, 4, 3, 182, 1, 48, 58, 6, 167, 3, 46, 43, 42, 21, 4, 4, 96, 46, 42]
def kCL_69 : List Nat := [21, 4, 5, 96, 46, 45, 184, 1, 49, 54, 5, 44, 42, 21, 4, 4, 96, 46, 42, 21, 4, 5, 96, 46, 182, 1, 51, 54, 6, 167, 3, 6]
def kCL_70 : List Nat := [43, 42, 21, 4, 4, 96, 46, 42, 21, 4, 5, 96, 46, 182, 1, 52, 87, 44, 42, 21, 4, 4, 96, 46, 42, 21, 4, 5, 96, 46, 182, 1]
def kCL_71 : List Nat := [55, 87, 167, 2, 225, 43, 42, 21, 4, 4, 96, 46, 42, 21, 4, 5, 96, 46, 42, 21, 4, 6, 96, 46, 153, 0, 7, 4, 167, 0, 4, 3]
def kCL_72 : List Nat := [45, 184, 1, 56, 54, 5, 44, 42, 21, 4, 4, 96, 46, 42, 21, 4, 5, 96, 46, 42, 21, 4, 6, 96, 46, 153, 0, 7, 4, 167, 0, 4]
def kCL_73 : List Nat := [3, 182, 1, 58, 54, 6, 167, 2, 157, 43, 42, 21, 4, 4, 96, 46, 42, 21, 4, 5, 96, 46, 42, 21, 4, 6, 96, 46, 45, 184, 1, 59]
def kCL_74 : List Nat := [54, 5, 44, 42, 21, 4, 4, 96, 46, 42, 21, 4, 5, 96, 46, 42, 21, 4, 6, 96, 46, 182, 1, 61, 54, 6, 167, 2, 105, 43, 42, 21]
def kCL_75 : List Nat := [4, 4, 96, 46, 42, 21, 4, 5, 96, 46, 42, 21, 4, 6, 96, 46, 45, 184, 1, 62, 54, 5, 44, 42, 21, 4, 4, 96, 46, 42, 21, 4]
def kCL_76 : List Nat := [5, 96, 46, 42, 21, 4, 6, 96, 46, 182, 1, 64, 54, 6, 167, 2, 53, 43, 42, 21, 4, 4, 96, 46, 42, 21, 4, 5, 96, 46, 42, 21]
def kCL_77 : List Nat := [4, 6, 96, 46, 42, 21, 4, 7, 96, 46, 153, 0, 7, 4, 167, 0, 4, 3, 45, 184, 1, 65, 54, 5, 44, 42, 21, 4, 4, 96, 46, 42]
def kCL_78 : List Nat := [21, 4, 5, 96, 46, 42, 21, 4, 6, 96, 46, 42, 21, 4, 7, 96, 46, 153, 0, 7, 4, 167, 0, 4, 3, 182, 1, 67, 58, 6, 167, 1]
def kCL_79 : List Nat := [229, 43, 42, 21, 4, 4, 96, 46, 42, 21, 4, 5, 96, 46, 45, 184, 1, 68, 54, 5, 44, 42, 21, 4, 4, 96, 46, 42, 21, 4, 5, 96]
def kCL_80 : List Nat := [46, 182, 1, 70, 54, 6, 167, 1, 189, 43, 42, 21, 4, 4, 96, 46, 42, 21, 4, 5, 96, 46, 45, 184, 1, 71, 54, 5, 44, 42, 21, 4]
def kCL_81 : List Nat := [4, 96, 46, 42, 21, 4, 5, 96, 46, 182, 1, 73, 54, 6, 167, 1, 149, 43, 42, 21, 4, 4, 96, 46, 42, 21, 4, 5, 96, 46, 42, 21]
def kCL_82 : List Nat := [4, 6, 96, 46, 45, 184, 1, 74, 54, 5, 44, 42, 21, 4, 4, 96, 46, 42, 21, 4, 5, 96, 46, 42, 21, 4, 6, 96, 46, 182, 1, 76]
def kCL_83 : List Nat := [54, 6, 167, 1, 97, 43, 42, 21, 4, 4, 96, 46, 42, 21, 4, 5, 96, 46, 42, 21, 4, 6, 96, 46, 45, 184, 1, 77, 54, 5, 44, 42]
def kCL_84 : List Nat := [21, 4, 4, 96, 46, 42, 21, 4, 5, 96, 46, 42, 21, 4, 6, 96, 46, 182, 1, 79, 54, 6, 167, 1, 45, 43, 42, 21, 4, 4, 96, 46]
def kCL_85 : List Nat := [42, 21, 4, 5, 96, 46, 45, 184, 1, 80, 54, 5, 44, 42, 21, 4, 4, 96, 46, 42, 21, 4, 5, 96, 46, 182, 1, 82, 54, 6, 167, 1]
def kCL_86 : List Nat := [5, 43, 42, 21, 4, 4, 96, 46, 45, 184, 1, 83, 54, 5, 44, 42, 21, 4, 4, 96, 46, 182, 1, 85, 58, 6, 44, 182, 1, 86, 21, 5]
def kCL_87 : List Nat := [159, 0, 5, 3, 172, 21, 5, 154, 0, 17, 45, 180, 0, 121, 25, 6, 182, 1, 90, 154, 0, 5, 3, 172, 167, 0, 203, 43, 42, 21, 4, 4]
def kCL_88 : List Nat := [96, 46, 42, 21, 4, 5, 96, 46, 42, 21, 4, 6, 96, 46, 45, 184, 1, 96, 54, 5, 44, 42, 21, 4, 4, 96, 46, 42, 21, 4, 5, 96]
def kCL_89 : List Nat := [46, 42, 21, 4, 6, 96, 46, 182, 1, 98, 54, 6, 167, 0, 151, 43, 42, 21, 4, 4, 96, 46, 42, 21, 4, 5, 96, 46, 45, 184, 1, 99]
def kCL_90 : List Nat := [54, 5, 44, 42, 21, 4, 4, 96, 46, 42, 21, 4, 5, 96, 46, 182, 1, 101, 54, 6, 167, 0, 111, 43, 42, 21, 4, 4, 96, 46, 153, 0]
def kCL_91 : List Nat := [7, 4, 167, 0, 4, 3, 182, 1, 102, 87, 44, 42, 21, 4, 4, 96, 46, 153, 0, 7, 4, 167, 0, 4, 3, 182, 1, 106, 87, 167, 0, 70]
def kCL_92 : List Nat := [43, 182, 1, 107, 87, 44, 182, 1, 110, 87, 167, 0, 57, 43, 42, 21, 4, 4, 96, 46, 45, 184, 1, 111, 54, 5, 44, 42, 21, 4, 4, 96]
def kCL_93 : List Nat := [46, 182, 1, 113, 54, 6, 167, 0, 29, 43, 182, 1, 114, 87, 44, 182, 1, 118, 87, 167, 0, 16, 43, 182, 1, 119, 88, 44, 182, 1, 123, 88]
def kCL_94 : List Nat := [167, 0, 3, 132, 4, 5, 167, 244, 85, 4, 172]
def kRL_95 : List Nat := []
def kRL_94 : List Nat := kCL_94 ++ kRL_95
def kRL_93 : List Nat := kCL_93 ++ kRL_94
def kRL_92 : List Nat := kCL_92 ++ kRL_93
def kRL_91 : List Nat := kCL_91 ++ kRL_92
def kRL_90 : List Nat := kCL_90 ++ kRL_91
def kRL_89 : List Nat := kCL_89 ++ kRL_90
def kRL_88 : List Nat := kCL_88 ++ kRL_89
def kRL_87 : List Nat := kCL_87 ++ kRL_88
def kRL_86 : List Nat := kCL_86 ++ kRL_87
def kRL_85 : List Nat := kCL_85 ++ kRL_86
def kRL_84 : List Nat := kCL_84 ++ kRL_85
def kRL_83 : List Nat := kCL_83 ++ kRL_84
def kRL_82 : List Nat := kCL_82 ++ kRL_83
def kRL_81 : List Nat := kCL_81 ++ kRL_82
def kRL_80 : List Nat := kCL_80 ++ kRL_81
def kRL_79 : List Nat := kCL_79 ++ kRL_80
def kRL_78 : List Nat := kCL_78 ++ kRL_79
def kRL_77 : List Nat := kCL_77 ++ kRL_78
def kRL_76 : List Nat := kCL_76 ++ kRL_77
def kRL_75 : List Nat := kCL_75 ++ kRL_76
def kRL_74 : List Nat := kCL_74 ++ kRL_75
def kRL_73 : List Nat := kCL_73 ++ kRL_74
def kRL_72 : List Nat := kCL_72 ++ kRL_73
def kRL_71 : List Nat := kCL_71 ++ kRL_72
def kRL_70 : List Nat := kCL_70 ++ kRL_71
def kRL_69 : List Nat := kCL_69 ++ kRL_70
def kRL_68 : List Nat := kCL_68 ++ kRL_69
def kRL_67 : List Nat := kCL_67 ++ kRL_68
def kRL_66 : List Nat := kCL_66 ++ kRL_67
def kRL_65 : List Nat := kCL_65 ++ kRL_66
def kRL_64 : List Nat := kCL_64 ++ kRL_65
def kRL_63 : List Nat := kCL_63 ++ kRL_64
def kRL_62 : List Nat := kCL_62 ++ kRL_63
def kRL_61 : List Nat := kCL_61 ++ kRL_62
def kRL_60 : List Nat := kCL_60 ++ kRL_61
def kRL_59 : List Nat := kCL_59 ++ kRL_60
def kRL_58 : List Nat := kCL_58 ++ kRL_59
def kRL_57 : List Nat := kCL_57 ++ kRL_58
def kRL_56 : List Nat := kCL_56 ++ kRL_57
def kRL_55 : List Nat := kCL_55 ++ kRL_56
def kRL_54 : List Nat := kCL_54 ++ kRL_55
def kRL_53 : List Nat := kCL_53 ++ kRL_54
def kRL_52 : List Nat := kCL_52 ++ kRL_53
def kRL_51 : List Nat := kCL_51 ++ kRL_52
def kRL_50 : List Nat := kCL_50 ++ kRL_51
def kRL_49 : List Nat := kCL_49 ++ kRL_50
def kRL_48 : List Nat := kCL_48 ++ kRL_49
def kRL_47 : List Nat := kCL_47 ++ kRL_48
def kRL_46 : List Nat := kCL_46 ++ kRL_47
def kRL_45 : List Nat := kCL_45 ++ kRL_46
def kRL_44 : List Nat := kCL_44 ++ kRL_45
def kRL_43 : List Nat := kCL_43 ++ kRL_44
def kRL_42 : List Nat := kCL_42 ++ kRL_43
def kRL_41 : List Nat := kCL_41 ++ kRL_42
def kRL_40 : List Nat := kCL_40 ++ kRL_41
def kRL_39 : List Nat := kCL_39 ++ kRL_40
def kRL_38 : List Nat := kCL_38 ++ kRL_39
def kRL_37 : List Nat := kCL_37 ++ kRL_38
def kRL_36 : List Nat := kCL_36 ++ kRL_37
def kRL_35 : List Nat := kCL_35 ++ kRL_36
def kRL_34 : List Nat := kCL_34 ++ kRL_35
def kRL_33 : List Nat := kCL_33 ++ kRL_34
def kRL_32 : List Nat := kCL_32 ++ kRL_33
def kRL_31 : List Nat := kCL_31 ++ kRL_32
def kRL_30 : List Nat := kCL_30 ++ kRL_31
def kRL_29 : List Nat := kCL_29 ++ kRL_30
def kRL_28 : List Nat := kCL_28 ++ kRL_29
def kRL_27 : List Nat := kCL_27 ++ kRL_28
def kRL_26 : List Nat := kCL_26 ++ kRL_27
def kRL_25 : List Nat := kCL_25 ++ kRL_26
def kRL_24 : List Nat := kCL_24 ++ kRL_25
def kRL_23 : List Nat := kCL_23 ++ kRL_24
def kRL_22 : List Nat := kCL_22 ++ kRL_23
def kRL_21 : List Nat := kCL_21 ++ kRL_22
def kRL_20 : List Nat := kCL_20 ++ kRL_21
def kRL_19 : List Nat := kCL_19 ++ kRL_20
def kRL_18 : List Nat := kCL_18 ++ kRL_19
def kRL_17 : List Nat := kCL_17 ++ kRL_18
def kRL_16 : List Nat := kCL_16 ++ kRL_17
def kRL_15 : List Nat := kCL_15 ++ kRL_16
def kRL_14 : List Nat := kCL_14 ++ kRL_15
def kRL_13 : List Nat := kCL_13 ++ kRL_14
def kRL_12 : List Nat := kCL_12 ++ kRL_13
def kRL_11 : List Nat := kCL_11 ++ kRL_12
def kRL_10 : List Nat := kCL_10 ++ kRL_11
def kRL_9 : List Nat := kCL_9 ++ kRL_10
def kRL_8 : List Nat := kCL_8 ++ kRL_9
def kRL_7 : List Nat := kCL_7 ++ kRL_8
def kRL_6 : List Nat := kCL_6 ++ kRL_7
def kRL_5 : List Nat := kCL_5 ++ kRL_6
def kRL_4 : List Nat := kCL_4 ++ kRL_5
def kRL_3 : List Nat := kCL_3 ++ kRL_4
def kRL_2 : List Nat := kCL_2 ++ kRL_3
def kRL_1 : List Nat := kCL_1 ++ kRL_2
def kRL_0 : List Nat := kCL_0 ++ kRL_1
theorem kRL_eq : cL_law.data.toList.map UInt8.toNat = kRL_0 := by decide +kernel
theorem katL_0 (i : Nat) : (cL_law.data.toList.map UInt8.toNat)[0 + i]? = kRL_0[i]? := by rw [kRL_eq, Nat.zero_add]
theorem katL_1 : ∀ i : Nat, (cL_law.data.toList.map UInt8.toNat)[32 + i]? = kRL_1[i]? := kstep katL_0 (C := kCL_0) rfl rfl
theorem katL_2 : ∀ i : Nat, (cL_law.data.toList.map UInt8.toNat)[64 + i]? = kRL_2[i]? := kstep katL_1 (C := kCL_1) rfl rfl
theorem katL_3 : ∀ i : Nat, (cL_law.data.toList.map UInt8.toNat)[96 + i]? = kRL_3[i]? := kstep katL_2 (C := kCL_2) rfl rfl
theorem katL_4 : ∀ i : Nat, (cL_law.data.toList.map UInt8.toNat)[128 + i]? = kRL_4[i]? := kstep katL_3 (C := kCL_3) rfl rfl
theorem katL_5 : ∀ i : Nat, (cL_law.data.toList.map UInt8.toNat)[160 + i]? = kRL_5[i]? := kstep katL_4 (C := kCL_4) rfl rfl
theorem katL_6 : ∀ i : Nat, (cL_law.data.toList.map UInt8.toNat)[192 + i]? = kRL_6[i]? := kstep katL_5 (C := kCL_5) rfl rfl
theorem katL_7 : ∀ i : Nat, (cL_law.data.toList.map UInt8.toNat)[224 + i]? = kRL_7[i]? := kstep katL_6 (C := kCL_6) rfl rfl
theorem katL_8 : ∀ i : Nat, (cL_law.data.toList.map UInt8.toNat)[256 + i]? = kRL_8[i]? := kstep katL_7 (C := kCL_7) rfl rfl
theorem katL_9 : ∀ i : Nat, (cL_law.data.toList.map UInt8.toNat)[288 + i]? = kRL_9[i]? := kstep katL_8 (C := kCL_8) rfl rfl
theorem katL_10 : ∀ i : Nat, (cL_law.data.toList.map UInt8.toNat)[320 + i]? = kRL_10[i]? := kstep katL_9 (C := kCL_9) rfl rfl
theorem katL_11 : ∀ i : Nat, (cL_law.data.toList.map UInt8.toNat)[352 + i]? = kRL_11[i]? := kstep katL_10 (C := kCL_10) rfl rfl
theorem katL_12 : ∀ i : Nat, (cL_law.data.toList.map UInt8.toNat)[384 + i]? = kRL_12[i]? := kstep katL_11 (C := kCL_11) rfl rfl
theorem katL_13 : ∀ i : Nat, (cL_law.data.toList.map UInt8.toNat)[416 + i]? = kRL_13[i]? := kstep katL_12 (C := kCL_12) rfl rfl
theorem katL_14 : ∀ i : Nat, (cL_law.data.toList.map UInt8.toNat)[448 + i]? = kRL_14[i]? := kstep katL_13 (C := kCL_13) rfl rfl
theorem katL_15 : ∀ i : Nat, (cL_law.data.toList.map UInt8.toNat)[480 + i]? = kRL_15[i]? := kstep katL_14 (C := kCL_14) rfl rfl
theorem katL_16 : ∀ i : Nat, (cL_law.data.toList.map UInt8.toNat)[512 + i]? = kRL_16[i]? := kstep katL_15 (C := kCL_15) rfl rfl
theorem katL_17 : ∀ i : Nat, (cL_law.data.toList.map UInt8.toNat)[544 + i]? = kRL_17[i]? := kstep katL_16 (C := kCL_16) rfl rfl
theorem katL_18 : ∀ i : Nat, (cL_law.data.toList.map UInt8.toNat)[576 + i]? = kRL_18[i]? := kstep katL_17 (C := kCL_17) rfl rfl
theorem katL_19 : ∀ i : Nat, (cL_law.data.toList.map UInt8.toNat)[608 + i]? = kRL_19[i]? := kstep katL_18 (C := kCL_18) rfl rfl
theorem katL_20 : ∀ i : Nat, (cL_law.data.toList.map UInt8.toNat)[640 + i]? = kRL_20[i]? := kstep katL_19 (C := kCL_19) rfl rfl
theorem katL_21 : ∀ i : Nat, (cL_law.data.toList.map UInt8.toNat)[672 + i]? = kRL_21[i]? := kstep katL_20 (C := kCL_20) rfl rfl
theorem katL_22 : ∀ i : Nat, (cL_law.data.toList.map UInt8.toNat)[704 + i]? = kRL_22[i]? := kstep katL_21 (C := kCL_21) rfl rfl
theorem katL_23 : ∀ i : Nat, (cL_law.data.toList.map UInt8.toNat)[736 + i]? = kRL_23[i]? := kstep katL_22 (C := kCL_22) rfl rfl
theorem katL_24 : ∀ i : Nat, (cL_law.data.toList.map UInt8.toNat)[768 + i]? = kRL_24[i]? := kstep katL_23 (C := kCL_23) rfl rfl
theorem katL_25 : ∀ i : Nat, (cL_law.data.toList.map UInt8.toNat)[800 + i]? = kRL_25[i]? := kstep katL_24 (C := kCL_24) rfl rfl
theorem katL_26 : ∀ i : Nat, (cL_law.data.toList.map UInt8.toNat)[832 + i]? = kRL_26[i]? := kstep katL_25 (C := kCL_25) rfl rfl
theorem katL_27 : ∀ i : Nat, (cL_law.data.toList.map UInt8.toNat)[864 + i]? = kRL_27[i]? := kstep katL_26 (C := kCL_26) rfl rfl
theorem katL_28 : ∀ i : Nat, (cL_law.data.toList.map UInt8.toNat)[896 + i]? = kRL_28[i]? := kstep katL_27 (C := kCL_27) rfl rfl
theorem katL_29 : ∀ i : Nat, (cL_law.data.toList.map UInt8.toNat)[928 + i]? = kRL_29[i]? := kstep katL_28 (C := kCL_28) rfl rfl
theorem katL_30 : ∀ i : Nat, (cL_law.data.toList.map UInt8.toNat)[960 + i]? = kRL_30[i]? := kstep katL_29 (C := kCL_29) rfl rfl
theorem katL_31 : ∀ i : Nat, (cL_law.data.toList.map UInt8.toNat)[992 + i]? = kRL_31[i]? := kstep katL_30 (C := kCL_30) rfl rfl
theorem katL_32 : ∀ i : Nat, (cL_law.data.toList.map UInt8.toNat)[1024 + i]? = kRL_32[i]? := kstep katL_31 (C := kCL_31) rfl rfl
theorem katL_33 : ∀ i : Nat, (cL_law.data.toList.map UInt8.toNat)[1056 + i]? = kRL_33[i]? := kstep katL_32 (C := kCL_32) rfl rfl
theorem katL_34 : ∀ i : Nat, (cL_law.data.toList.map UInt8.toNat)[1088 + i]? = kRL_34[i]? := kstep katL_33 (C := kCL_33) rfl rfl
theorem katL_35 : ∀ i : Nat, (cL_law.data.toList.map UInt8.toNat)[1120 + i]? = kRL_35[i]? := kstep katL_34 (C := kCL_34) rfl rfl
theorem katL_36 : ∀ i : Nat, (cL_law.data.toList.map UInt8.toNat)[1152 + i]? = kRL_36[i]? := kstep katL_35 (C := kCL_35) rfl rfl
theorem katL_37 : ∀ i : Nat, (cL_law.data.toList.map UInt8.toNat)[1184 + i]? = kRL_37[i]? := kstep katL_36 (C := kCL_36) rfl rfl
theorem katL_38 : ∀ i : Nat, (cL_law.data.toList.map UInt8.toNat)[1216 + i]? = kRL_38[i]? := kstep katL_37 (C := kCL_37) rfl rfl
theorem katL_39 : ∀ i : Nat, (cL_law.data.toList.map UInt8.toNat)[1248 + i]? = kRL_39[i]? := kstep katL_38 (C := kCL_38) rfl rfl
theorem katL_40 : ∀ i : Nat, (cL_law.data.toList.map UInt8.toNat)[1280 + i]? = kRL_40[i]? := kstep katL_39 (C := kCL_39) rfl rfl
theorem katL_41 : ∀ i : Nat, (cL_law.data.toList.map UInt8.toNat)[1312 + i]? = kRL_41[i]? := kstep katL_40 (C := kCL_40) rfl rfl
theorem katL_42 : ∀ i : Nat, (cL_law.data.toList.map UInt8.toNat)[1344 + i]? = kRL_42[i]? := kstep katL_41 (C := kCL_41) rfl rfl
theorem katL_43 : ∀ i : Nat, (cL_law.data.toList.map UInt8.toNat)[1376 + i]? = kRL_43[i]? := kstep katL_42 (C := kCL_42) rfl rfl
theorem katL_44 : ∀ i : Nat, (cL_law.data.toList.map UInt8.toNat)[1408 + i]? = kRL_44[i]? := kstep katL_43 (C := kCL_43) rfl rfl
theorem katL_45 : ∀ i : Nat, (cL_law.data.toList.map UInt8.toNat)[1440 + i]? = kRL_45[i]? := kstep katL_44 (C := kCL_44) rfl rfl
theorem katL_46 : ∀ i : Nat, (cL_law.data.toList.map UInt8.toNat)[1472 + i]? = kRL_46[i]? := kstep katL_45 (C := kCL_45) rfl rfl
theorem katL_47 : ∀ i : Nat, (cL_law.data.toList.map UInt8.toNat)[1504 + i]? = kRL_47[i]? := kstep katL_46 (C := kCL_46) rfl rfl
theorem katL_48 : ∀ i : Nat, (cL_law.data.toList.map UInt8.toNat)[1536 + i]? = kRL_48[i]? := kstep katL_47 (C := kCL_47) rfl rfl
theorem katL_49 : ∀ i : Nat, (cL_law.data.toList.map UInt8.toNat)[1568 + i]? = kRL_49[i]? := kstep katL_48 (C := kCL_48) rfl rfl
theorem katL_50 : ∀ i : Nat, (cL_law.data.toList.map UInt8.toNat)[1600 + i]? = kRL_50[i]? := kstep katL_49 (C := kCL_49) rfl rfl
theorem katL_51 : ∀ i : Nat, (cL_law.data.toList.map UInt8.toNat)[1632 + i]? = kRL_51[i]? := kstep katL_50 (C := kCL_50) rfl rfl
theorem katL_52 : ∀ i : Nat, (cL_law.data.toList.map UInt8.toNat)[1664 + i]? = kRL_52[i]? := kstep katL_51 (C := kCL_51) rfl rfl
theorem katL_53 : ∀ i : Nat, (cL_law.data.toList.map UInt8.toNat)[1696 + i]? = kRL_53[i]? := kstep katL_52 (C := kCL_52) rfl rfl
theorem katL_54 : ∀ i : Nat, (cL_law.data.toList.map UInt8.toNat)[1728 + i]? = kRL_54[i]? := kstep katL_53 (C := kCL_53) rfl rfl
theorem katL_55 : ∀ i : Nat, (cL_law.data.toList.map UInt8.toNat)[1760 + i]? = kRL_55[i]? := kstep katL_54 (C := kCL_54) rfl rfl
theorem katL_56 : ∀ i : Nat, (cL_law.data.toList.map UInt8.toNat)[1792 + i]? = kRL_56[i]? := kstep katL_55 (C := kCL_55) rfl rfl
theorem katL_57 : ∀ i : Nat, (cL_law.data.toList.map UInt8.toNat)[1824 + i]? = kRL_57[i]? := kstep katL_56 (C := kCL_56) rfl rfl
theorem katL_58 : ∀ i : Nat, (cL_law.data.toList.map UInt8.toNat)[1856 + i]? = kRL_58[i]? := kstep katL_57 (C := kCL_57) rfl rfl
theorem katL_59 : ∀ i : Nat, (cL_law.data.toList.map UInt8.toNat)[1888 + i]? = kRL_59[i]? := kstep katL_58 (C := kCL_58) rfl rfl
theorem katL_60 : ∀ i : Nat, (cL_law.data.toList.map UInt8.toNat)[1920 + i]? = kRL_60[i]? := kstep katL_59 (C := kCL_59) rfl rfl
theorem katL_61 : ∀ i : Nat, (cL_law.data.toList.map UInt8.toNat)[1952 + i]? = kRL_61[i]? := kstep katL_60 (C := kCL_60) rfl rfl
theorem katL_62 : ∀ i : Nat, (cL_law.data.toList.map UInt8.toNat)[1984 + i]? = kRL_62[i]? := kstep katL_61 (C := kCL_61) rfl rfl
theorem katL_63 : ∀ i : Nat, (cL_law.data.toList.map UInt8.toNat)[2016 + i]? = kRL_63[i]? := kstep katL_62 (C := kCL_62) rfl rfl
theorem katL_64 : ∀ i : Nat, (cL_law.data.toList.map UInt8.toNat)[2048 + i]? = kRL_64[i]? := kstep katL_63 (C := kCL_63) rfl rfl
theorem katL_65 : ∀ i : Nat, (cL_law.data.toList.map UInt8.toNat)[2080 + i]? = kRL_65[i]? := kstep katL_64 (C := kCL_64) rfl rfl
theorem katL_66 : ∀ i : Nat, (cL_law.data.toList.map UInt8.toNat)[2112 + i]? = kRL_66[i]? := kstep katL_65 (C := kCL_65) rfl rfl
theorem katL_67 : ∀ i : Nat, (cL_law.data.toList.map UInt8.toNat)[2144 + i]? = kRL_67[i]? := kstep katL_66 (C := kCL_66) rfl rfl
theorem katL_68 : ∀ i : Nat, (cL_law.data.toList.map UInt8.toNat)[2176 + i]? = kRL_68[i]? := kstep katL_67 (C := kCL_67) rfl rfl
theorem katL_69 : ∀ i : Nat, (cL_law.data.toList.map UInt8.toNat)[2208 + i]? = kRL_69[i]? := kstep katL_68 (C := kCL_68) rfl rfl
theorem katL_70 : ∀ i : Nat, (cL_law.data.toList.map UInt8.toNat)[2240 + i]? = kRL_70[i]? := kstep katL_69 (C := kCL_69) rfl rfl
theorem katL_71 : ∀ i : Nat, (cL_law.data.toList.map UInt8.toNat)[2272 + i]? = kRL_71[i]? := kstep katL_70 (C := kCL_70) rfl rfl
theorem katL_72 : ∀ i : Nat, (cL_law.data.toList.map UInt8.toNat)[2304 + i]? = kRL_72[i]? := kstep katL_71 (C := kCL_71) rfl rfl
theorem katL_73 : ∀ i : Nat, (cL_law.data.toList.map UInt8.toNat)[2336 + i]? = kRL_73[i]? := kstep katL_72 (C := kCL_72) rfl rfl
theorem katL_74 : ∀ i : Nat, (cL_law.data.toList.map UInt8.toNat)[2368 + i]? = kRL_74[i]? := kstep katL_73 (C := kCL_73) rfl rfl
theorem katL_75 : ∀ i : Nat, (cL_law.data.toList.map UInt8.toNat)[2400 + i]? = kRL_75[i]? := kstep katL_74 (C := kCL_74) rfl rfl
theorem katL_76 : ∀ i : Nat, (cL_law.data.toList.map UInt8.toNat)[2432 + i]? = kRL_76[i]? := kstep katL_75 (C := kCL_75) rfl rfl
theorem katL_77 : ∀ i : Nat, (cL_law.data.toList.map UInt8.toNat)[2464 + i]? = kRL_77[i]? := kstep katL_76 (C := kCL_76) rfl rfl
theorem katL_78 : ∀ i : Nat, (cL_law.data.toList.map UInt8.toNat)[2496 + i]? = kRL_78[i]? := kstep katL_77 (C := kCL_77) rfl rfl
theorem katL_79 : ∀ i : Nat, (cL_law.data.toList.map UInt8.toNat)[2528 + i]? = kRL_79[i]? := kstep katL_78 (C := kCL_78) rfl rfl
theorem katL_80 : ∀ i : Nat, (cL_law.data.toList.map UInt8.toNat)[2560 + i]? = kRL_80[i]? := kstep katL_79 (C := kCL_79) rfl rfl
theorem katL_81 : ∀ i : Nat, (cL_law.data.toList.map UInt8.toNat)[2592 + i]? = kRL_81[i]? := kstep katL_80 (C := kCL_80) rfl rfl
theorem katL_82 : ∀ i : Nat, (cL_law.data.toList.map UInt8.toNat)[2624 + i]? = kRL_82[i]? := kstep katL_81 (C := kCL_81) rfl rfl
theorem katL_83 : ∀ i : Nat, (cL_law.data.toList.map UInt8.toNat)[2656 + i]? = kRL_83[i]? := kstep katL_82 (C := kCL_82) rfl rfl
theorem katL_84 : ∀ i : Nat, (cL_law.data.toList.map UInt8.toNat)[2688 + i]? = kRL_84[i]? := kstep katL_83 (C := kCL_83) rfl rfl
theorem katL_85 : ∀ i : Nat, (cL_law.data.toList.map UInt8.toNat)[2720 + i]? = kRL_85[i]? := kstep katL_84 (C := kCL_84) rfl rfl
theorem katL_86 : ∀ i : Nat, (cL_law.data.toList.map UInt8.toNat)[2752 + i]? = kRL_86[i]? := kstep katL_85 (C := kCL_85) rfl rfl
theorem katL_87 : ∀ i : Nat, (cL_law.data.toList.map UInt8.toNat)[2784 + i]? = kRL_87[i]? := kstep katL_86 (C := kCL_86) rfl rfl
theorem katL_88 : ∀ i : Nat, (cL_law.data.toList.map UInt8.toNat)[2816 + i]? = kRL_88[i]? := kstep katL_87 (C := kCL_87) rfl rfl
theorem katL_89 : ∀ i : Nat, (cL_law.data.toList.map UInt8.toNat)[2848 + i]? = kRL_89[i]? := kstep katL_88 (C := kCL_88) rfl rfl
theorem katL_90 : ∀ i : Nat, (cL_law.data.toList.map UInt8.toNat)[2880 + i]? = kRL_90[i]? := kstep katL_89 (C := kCL_89) rfl rfl
theorem katL_91 : ∀ i : Nat, (cL_law.data.toList.map UInt8.toNat)[2912 + i]? = kRL_91[i]? := kstep katL_90 (C := kCL_90) rfl rfl
theorem katL_92 : ∀ i : Nat, (cL_law.data.toList.map UInt8.toNat)[2944 + i]? = kRL_92[i]? := kstep katL_91 (C := kCL_91) rfl rfl
theorem katL_93 : ∀ i : Nat, (cL_law.data.toList.map UInt8.toNat)[2976 + i]? = kRL_93[i]? := kstep katL_92 (C := kCL_92) rfl rfl
theorem katL_94 : ∀ i : Nat, (cL_law.data.toList.map UInt8.toNat)[3008 + i]? = kRL_94[i]? := kstep katL_93 (C := kCL_93) rfl rfl
theorem kBL_0 {b : Nat} (p : Nat) (hp : Nat.ble 0 p = true) (h : kCL_0[p - 0]? = some b) : kb cL_law p b := kin katL_0 rfl hp h
theorem kBL_1 {b : Nat} (p : Nat) (hp : Nat.ble 32 p = true) (h : kCL_1[p - 32]? = some b) : kb cL_law p b := kin katL_1 rfl hp h
theorem kBL_2 {b : Nat} (p : Nat) (hp : Nat.ble 64 p = true) (h : kCL_2[p - 64]? = some b) : kb cL_law p b := kin katL_2 rfl hp h
theorem kBL_3 {b : Nat} (p : Nat) (hp : Nat.ble 96 p = true) (h : kCL_3[p - 96]? = some b) : kb cL_law p b := kin katL_3 rfl hp h
theorem kBL_4 {b : Nat} (p : Nat) (hp : Nat.ble 128 p = true) (h : kCL_4[p - 128]? = some b) : kb cL_law p b := kin katL_4 rfl hp h
theorem kBL_5 {b : Nat} (p : Nat) (hp : Nat.ble 160 p = true) (h : kCL_5[p - 160]? = some b) : kb cL_law p b := kin katL_5 rfl hp h
theorem kBL_6 {b : Nat} (p : Nat) (hp : Nat.ble 192 p = true) (h : kCL_6[p - 192]? = some b) : kb cL_law p b := kin katL_6 rfl hp h
theorem kBL_7 {b : Nat} (p : Nat) (hp : Nat.ble 224 p = true) (h : kCL_7[p - 224]? = some b) : kb cL_law p b := kin katL_7 rfl hp h
theorem kBL_8 {b : Nat} (p : Nat) (hp : Nat.ble 256 p = true) (h : kCL_8[p - 256]? = some b) : kb cL_law p b := kin katL_8 rfl hp h
theorem kBL_9 {b : Nat} (p : Nat) (hp : Nat.ble 288 p = true) (h : kCL_9[p - 288]? = some b) : kb cL_law p b := kin katL_9 rfl hp h
theorem kBL_10 {b : Nat} (p : Nat) (hp : Nat.ble 320 p = true) (h : kCL_10[p - 320]? = some b) : kb cL_law p b := kin katL_10 rfl hp h
theorem kBL_11 {b : Nat} (p : Nat) (hp : Nat.ble 352 p = true) (h : kCL_11[p - 352]? = some b) : kb cL_law p b := kin katL_11 rfl hp h
theorem kBL_12 {b : Nat} (p : Nat) (hp : Nat.ble 384 p = true) (h : kCL_12[p - 384]? = some b) : kb cL_law p b := kin katL_12 rfl hp h
theorem kBL_13 {b : Nat} (p : Nat) (hp : Nat.ble 416 p = true) (h : kCL_13[p - 416]? = some b) : kb cL_law p b := kin katL_13 rfl hp h
theorem kBL_14 {b : Nat} (p : Nat) (hp : Nat.ble 448 p = true) (h : kCL_14[p - 448]? = some b) : kb cL_law p b := kin katL_14 rfl hp h
theorem kBL_15 {b : Nat} (p : Nat) (hp : Nat.ble 480 p = true) (h : kCL_15[p - 480]? = some b) : kb cL_law p b := kin katL_15 rfl hp h
theorem kBL_16 {b : Nat} (p : Nat) (hp : Nat.ble 512 p = true) (h : kCL_16[p - 512]? = some b) : kb cL_law p b := kin katL_16 rfl hp h
theorem kBL_17 {b : Nat} (p : Nat) (hp : Nat.ble 544 p = true) (h : kCL_17[p - 544]? = some b) : kb cL_law p b := kin katL_17 rfl hp h
theorem kBL_18 {b : Nat} (p : Nat) (hp : Nat.ble 576 p = true) (h : kCL_18[p - 576]? = some b) : kb cL_law p b := kin katL_18 rfl hp h
theorem kBL_19 {b : Nat} (p : Nat) (hp : Nat.ble 608 p = true) (h : kCL_19[p - 608]? = some b) : kb cL_law p b := kin katL_19 rfl hp h
theorem kBL_20 {b : Nat} (p : Nat) (hp : Nat.ble 640 p = true) (h : kCL_20[p - 640]? = some b) : kb cL_law p b := kin katL_20 rfl hp h
theorem kBL_21 {b : Nat} (p : Nat) (hp : Nat.ble 672 p = true) (h : kCL_21[p - 672]? = some b) : kb cL_law p b := kin katL_21 rfl hp h
theorem kBL_22 {b : Nat} (p : Nat) (hp : Nat.ble 704 p = true) (h : kCL_22[p - 704]? = some b) : kb cL_law p b := kin katL_22 rfl hp h
theorem kBL_23 {b : Nat} (p : Nat) (hp : Nat.ble 736 p = true) (h : kCL_23[p - 736]? = some b) : kb cL_law p b := kin katL_23 rfl hp h
theorem kBL_24 {b : Nat} (p : Nat) (hp : Nat.ble 768 p = true) (h : kCL_24[p - 768]? = some b) : kb cL_law p b := kin katL_24 rfl hp h
theorem kBL_25 {b : Nat} (p : Nat) (hp : Nat.ble 800 p = true) (h : kCL_25[p - 800]? = some b) : kb cL_law p b := kin katL_25 rfl hp h
theorem kBL_26 {b : Nat} (p : Nat) (hp : Nat.ble 832 p = true) (h : kCL_26[p - 832]? = some b) : kb cL_law p b := kin katL_26 rfl hp h
theorem kBL_27 {b : Nat} (p : Nat) (hp : Nat.ble 864 p = true) (h : kCL_27[p - 864]? = some b) : kb cL_law p b := kin katL_27 rfl hp h
theorem kBL_28 {b : Nat} (p : Nat) (hp : Nat.ble 896 p = true) (h : kCL_28[p - 896]? = some b) : kb cL_law p b := kin katL_28 rfl hp h
theorem kBL_29 {b : Nat} (p : Nat) (hp : Nat.ble 928 p = true) (h : kCL_29[p - 928]? = some b) : kb cL_law p b := kin katL_29 rfl hp h
theorem kBL_30 {b : Nat} (p : Nat) (hp : Nat.ble 960 p = true) (h : kCL_30[p - 960]? = some b) : kb cL_law p b := kin katL_30 rfl hp h
theorem kBL_31 {b : Nat} (p : Nat) (hp : Nat.ble 992 p = true) (h : kCL_31[p - 992]? = some b) : kb cL_law p b := kin katL_31 rfl hp h
theorem kBL_32 {b : Nat} (p : Nat) (hp : Nat.ble 1024 p = true) (h : kCL_32[p - 1024]? = some b) : kb cL_law p b := kin katL_32 rfl hp h
theorem kBL_33 {b : Nat} (p : Nat) (hp : Nat.ble 1056 p = true) (h : kCL_33[p - 1056]? = some b) : kb cL_law p b := kin katL_33 rfl hp h
theorem kBL_34 {b : Nat} (p : Nat) (hp : Nat.ble 1088 p = true) (h : kCL_34[p - 1088]? = some b) : kb cL_law p b := kin katL_34 rfl hp h
theorem kBL_35 {b : Nat} (p : Nat) (hp : Nat.ble 1120 p = true) (h : kCL_35[p - 1120]? = some b) : kb cL_law p b := kin katL_35 rfl hp h
theorem kBL_36 {b : Nat} (p : Nat) (hp : Nat.ble 1152 p = true) (h : kCL_36[p - 1152]? = some b) : kb cL_law p b := kin katL_36 rfl hp h
theorem kBL_37 {b : Nat} (p : Nat) (hp : Nat.ble 1184 p = true) (h : kCL_37[p - 1184]? = some b) : kb cL_law p b := kin katL_37 rfl hp h
theorem kBL_38 {b : Nat} (p : Nat) (hp : Nat.ble 1216 p = true) (h : kCL_38[p - 1216]? = some b) : kb cL_law p b := kin katL_38 rfl hp h
theorem kBL_39 {b : Nat} (p : Nat) (hp : Nat.ble 1248 p = true) (h : kCL_39[p - 1248]? = some b) : kb cL_law p b := kin katL_39 rfl hp h
theorem kBL_40 {b : Nat} (p : Nat) (hp : Nat.ble 1280 p = true) (h : kCL_40[p - 1280]? = some b) : kb cL_law p b := kin katL_40 rfl hp h
theorem kBL_41 {b : Nat} (p : Nat) (hp : Nat.ble 1312 p = true) (h : kCL_41[p - 1312]? = some b) : kb cL_law p b := kin katL_41 rfl hp h
theorem kBL_42 {b : Nat} (p : Nat) (hp : Nat.ble 1344 p = true) (h : kCL_42[p - 1344]? = some b) : kb cL_law p b := kin katL_42 rfl hp h
theorem kBL_43 {b : Nat} (p : Nat) (hp : Nat.ble 1376 p = true) (h : kCL_43[p - 1376]? = some b) : kb cL_law p b := kin katL_43 rfl hp h
theorem kBL_44 {b : Nat} (p : Nat) (hp : Nat.ble 1408 p = true) (h : kCL_44[p - 1408]? = some b) : kb cL_law p b := kin katL_44 rfl hp h
theorem kBL_45 {b : Nat} (p : Nat) (hp : Nat.ble 1440 p = true) (h : kCL_45[p - 1440]? = some b) : kb cL_law p b := kin katL_45 rfl hp h
theorem kBL_46 {b : Nat} (p : Nat) (hp : Nat.ble 1472 p = true) (h : kCL_46[p - 1472]? = some b) : kb cL_law p b := kin katL_46 rfl hp h
theorem kBL_47 {b : Nat} (p : Nat) (hp : Nat.ble 1504 p = true) (h : kCL_47[p - 1504]? = some b) : kb cL_law p b := kin katL_47 rfl hp h
theorem kBL_48 {b : Nat} (p : Nat) (hp : Nat.ble 1536 p = true) (h : kCL_48[p - 1536]? = some b) : kb cL_law p b := kin katL_48 rfl hp h
theorem kBL_49 {b : Nat} (p : Nat) (hp : Nat.ble 1568 p = true) (h : kCL_49[p - 1568]? = some b) : kb cL_law p b := kin katL_49 rfl hp h
theorem kBL_50 {b : Nat} (p : Nat) (hp : Nat.ble 1600 p = true) (h : kCL_50[p - 1600]? = some b) : kb cL_law p b := kin katL_50 rfl hp h
theorem kBL_51 {b : Nat} (p : Nat) (hp : Nat.ble 1632 p = true) (h : kCL_51[p - 1632]? = some b) : kb cL_law p b := kin katL_51 rfl hp h
theorem kBL_52 {b : Nat} (p : Nat) (hp : Nat.ble 1664 p = true) (h : kCL_52[p - 1664]? = some b) : kb cL_law p b := kin katL_52 rfl hp h
theorem kBL_53 {b : Nat} (p : Nat) (hp : Nat.ble 1696 p = true) (h : kCL_53[p - 1696]? = some b) : kb cL_law p b := kin katL_53 rfl hp h
theorem kBL_54 {b : Nat} (p : Nat) (hp : Nat.ble 1728 p = true) (h : kCL_54[p - 1728]? = some b) : kb cL_law p b := kin katL_54 rfl hp h
theorem kBL_55 {b : Nat} (p : Nat) (hp : Nat.ble 1760 p = true) (h : kCL_55[p - 1760]? = some b) : kb cL_law p b := kin katL_55 rfl hp h
theorem kBL_56 {b : Nat} (p : Nat) (hp : Nat.ble 1792 p = true) (h : kCL_56[p - 1792]? = some b) : kb cL_law p b := kin katL_56 rfl hp h
theorem kBL_57 {b : Nat} (p : Nat) (hp : Nat.ble 1824 p = true) (h : kCL_57[p - 1824]? = some b) : kb cL_law p b := kin katL_57 rfl hp h
theorem kBL_58 {b : Nat} (p : Nat) (hp : Nat.ble 1856 p = true) (h : kCL_58[p - 1856]? = some b) : kb cL_law p b := kin katL_58 rfl hp h
theorem kBL_59 {b : Nat} (p : Nat) (hp : Nat.ble 1888 p = true) (h : kCL_59[p - 1888]? = some b) : kb cL_law p b := kin katL_59 rfl hp h
theorem kBL_60 {b : Nat} (p : Nat) (hp : Nat.ble 1920 p = true) (h : kCL_60[p - 1920]? = some b) : kb cL_law p b := kin katL_60 rfl hp h
theorem kBL_61 {b : Nat} (p : Nat) (hp : Nat.ble 1952 p = true) (h : kCL_61[p - 1952]? = some b) : kb cL_law p b := kin katL_61 rfl hp h
theorem kBL_62 {b : Nat} (p : Nat) (hp : Nat.ble 1984 p = true) (h : kCL_62[p - 1984]? = some b) : kb cL_law p b := kin katL_62 rfl hp h
theorem kBL_63 {b : Nat} (p : Nat) (hp : Nat.ble 2016 p = true) (h : kCL_63[p - 2016]? = some b) : kb cL_law p b := kin katL_63 rfl hp h
theorem kBL_64 {b : Nat} (p : Nat) (hp : Nat.ble 2048 p = true) (h : kCL_64[p - 2048]? = some b) : kb cL_law p b := kin katL_64 rfl hp h
theorem kBL_65 {b : Nat} (p : Nat) (hp : Nat.ble 2080 p = true) (h : kCL_65[p - 2080]? = some b) : kb cL_law p b := kin katL_65 rfl hp h
theorem kBL_66 {b : Nat} (p : Nat) (hp : Nat.ble 2112 p = true) (h : kCL_66[p - 2112]? = some b) : kb cL_law p b := kin katL_66 rfl hp h
theorem kBL_67 {b : Nat} (p : Nat) (hp : Nat.ble 2144 p = true) (h : kCL_67[p - 2144]? = some b) : kb cL_law p b := kin katL_67 rfl hp h
theorem kBL_68 {b : Nat} (p : Nat) (hp : Nat.ble 2176 p = true) (h : kCL_68[p - 2176]? = some b) : kb cL_law p b := kin katL_68 rfl hp h
theorem kBL_69 {b : Nat} (p : Nat) (hp : Nat.ble 2208 p = true) (h : kCL_69[p - 2208]? = some b) : kb cL_law p b := kin katL_69 rfl hp h
theorem kBL_70 {b : Nat} (p : Nat) (hp : Nat.ble 2240 p = true) (h : kCL_70[p - 2240]? = some b) : kb cL_law p b := kin katL_70 rfl hp h
theorem kBL_71 {b : Nat} (p : Nat) (hp : Nat.ble 2272 p = true) (h : kCL_71[p - 2272]? = some b) : kb cL_law p b := kin katL_71 rfl hp h
theorem kBL_72 {b : Nat} (p : Nat) (hp : Nat.ble 2304 p = true) (h : kCL_72[p - 2304]? = some b) : kb cL_law p b := kin katL_72 rfl hp h
theorem kBL_73 {b : Nat} (p : Nat) (hp : Nat.ble 2336 p = true) (h : kCL_73[p - 2336]? = some b) : kb cL_law p b := kin katL_73 rfl hp h
theorem kBL_74 {b : Nat} (p : Nat) (hp : Nat.ble 2368 p = true) (h : kCL_74[p - 2368]? = some b) : kb cL_law p b := kin katL_74 rfl hp h
theorem kBL_75 {b : Nat} (p : Nat) (hp : Nat.ble 2400 p = true) (h : kCL_75[p - 2400]? = some b) : kb cL_law p b := kin katL_75 rfl hp h
theorem kBL_76 {b : Nat} (p : Nat) (hp : Nat.ble 2432 p = true) (h : kCL_76[p - 2432]? = some b) : kb cL_law p b := kin katL_76 rfl hp h
theorem kBL_77 {b : Nat} (p : Nat) (hp : Nat.ble 2464 p = true) (h : kCL_77[p - 2464]? = some b) : kb cL_law p b := kin katL_77 rfl hp h
theorem kBL_78 {b : Nat} (p : Nat) (hp : Nat.ble 2496 p = true) (h : kCL_78[p - 2496]? = some b) : kb cL_law p b := kin katL_78 rfl hp h
theorem kBL_79 {b : Nat} (p : Nat) (hp : Nat.ble 2528 p = true) (h : kCL_79[p - 2528]? = some b) : kb cL_law p b := kin katL_79 rfl hp h
theorem kBL_80 {b : Nat} (p : Nat) (hp : Nat.ble 2560 p = true) (h : kCL_80[p - 2560]? = some b) : kb cL_law p b := kin katL_80 rfl hp h
theorem kBL_81 {b : Nat} (p : Nat) (hp : Nat.ble 2592 p = true) (h : kCL_81[p - 2592]? = some b) : kb cL_law p b := kin katL_81 rfl hp h
theorem kBL_82 {b : Nat} (p : Nat) (hp : Nat.ble 2624 p = true) (h : kCL_82[p - 2624]? = some b) : kb cL_law p b := kin katL_82 rfl hp h
theorem kBL_83 {b : Nat} (p : Nat) (hp : Nat.ble 2656 p = true) (h : kCL_83[p - 2656]? = some b) : kb cL_law p b := kin katL_83 rfl hp h
theorem kBL_84 {b : Nat} (p : Nat) (hp : Nat.ble 2688 p = true) (h : kCL_84[p - 2688]? = some b) : kb cL_law p b := kin katL_84 rfl hp h
theorem kBL_85 {b : Nat} (p : Nat) (hp : Nat.ble 2720 p = true) (h : kCL_85[p - 2720]? = some b) : kb cL_law p b := kin katL_85 rfl hp h
theorem kBL_86 {b : Nat} (p : Nat) (hp : Nat.ble 2752 p = true) (h : kCL_86[p - 2752]? = some b) : kb cL_law p b := kin katL_86 rfl hp h
theorem kBL_87 {b : Nat} (p : Nat) (hp : Nat.ble 2784 p = true) (h : kCL_87[p - 2784]? = some b) : kb cL_law p b := kin katL_87 rfl hp h
theorem kBL_88 {b : Nat} (p : Nat) (hp : Nat.ble 2816 p = true) (h : kCL_88[p - 2816]? = some b) : kb cL_law p b := kin katL_88 rfl hp h
theorem kBL_89 {b : Nat} (p : Nat) (hp : Nat.ble 2848 p = true) (h : kCL_89[p - 2848]? = some b) : kb cL_law p b := kin katL_89 rfl hp h
theorem kBL_90 {b : Nat} (p : Nat) (hp : Nat.ble 2880 p = true) (h : kCL_90[p - 2880]? = some b) : kb cL_law p b := kin katL_90 rfl hp h
theorem kBL_91 {b : Nat} (p : Nat) (hp : Nat.ble 2912 p = true) (h : kCL_91[p - 2912]? = some b) : kb cL_law p b := kin katL_91 rfl hp h
theorem kBL_92 {b : Nat} (p : Nat) (hp : Nat.ble 2944 p = true) (h : kCL_92[p - 2944]? = some b) : kb cL_law p b := kin katL_92 rfl hp h
theorem kBL_93 {b : Nat} (p : Nat) (hp : Nat.ble 2976 p = true) (h : kCL_93[p - 2976]? = some b) : kb cL_law p b := kin katL_93 rfl hp h
theorem kBL_94 {b : Nat} (p : Nat) (hp : Nat.ble 3008 p = true) (h : kCL_94[p - 3008]? = some b) : kb cL_law p b := kin katL_94 rfl hp h
