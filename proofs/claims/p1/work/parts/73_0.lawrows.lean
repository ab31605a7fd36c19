def kCL_0 : List Nat := [187, 0, 8, 89, 183, 0, 184, 76, 187, 0, 185, 89, 183, 0, 187, 77, 187, 0, 14, 89, 183, 0, 188, 78, 3, 54, 4, 21, 4, 42, 190, 8]
def kCL_1 : List Nat := [100, 163, 17, 106, 42, 21, 4, 46, 16, 63, 126, 170, 0, 0, 17, 90, 0, 0, 0, 0, 0, 0, 0, 54, 0, 0, 0, 233, 0, 0, 1, 58]
def kCL_2 : List Nat := [0, 0, 1, 139, 0, 0, 1, 236, 0, 0, 2, 77, 0, 0, 2, 186, 0, 0, 3, 39, 0, 0, 3, 108, 0, 0, 3, 177, 0, 0, 4, 2]
def kCL_3 : List Nat := [0, 0, 4, 83, 0, 0, 4, 164, 0, 0, 4, 233, 0, 0, 5, 46, 0, 0, 5, 115, 0, 0, 5, 212, 0, 0, 6, 65, 0, 0, 6, 146]
def kCL_4 : List Nat := [0, 0, 6, 243, 0, 0, 7, 56, 0, 0, 7, 137, 0, 0, 7, 218, 0, 0, 8, 59, 0, 0, 8, 156, 0, 0, 8, 225, 0, 0, 9, 38]
def kCL_5 : List Nat := [0, 0, 9, 119, 0, 0, 9, 188, 0, 0, 10, 13, 0, 0, 10, 94, 0, 0, 10, 175, 0, 0, 10, 244, 0, 0, 11, 46, 0, 0, 11, 122]
def kCL_6 : List Nat := [0, 0, 11, 203, 0, 0, 12, 35, 0, 0, 12, 145, 0, 0, 12, 214, 0, 0, 12, 251, 0, 0, 13, 99, 0, 0, 13, 180, 0, 0, 14, 12]
def kCL_7 : List Nat := [0, 0, 14, 122, 0, 0, 14, 191, 0, 0, 15, 11, 0, 0, 15, 92, 0, 0, 15, 180, 0, 0, 15, 249, 0, 0, 16, 51, 0, 0, 16, 132]
def kCL_8 : List Nat := [0, 0, 16, 208, 0, 0, 16, 249, 0, 0, 17, 6, 0, 0, 17, 63, 0, 0, 17, 76, 43, 42, 21, 4, 4, 96, 46, 42, 21, 4, 5, 96]
def kCL_9 : List Nat := [46, 42, 21, 4, 6, 96, 46, 45, 184, 0, 189, 54, 5, 44, 42, 21, 4, 4, 96, 46, 42, 21, 4, 5, 96, 46, 42, 21, 4, 6, 96, 46]
def kCL_10 : List Nat := [182, 0, 194, 54, 6, 44, 182, 0, 195, 21, 5, 159, 0, 5, 3, 172, 21, 5, 154, 0, 16, 45, 180, 0, 13, 21, 6, 133, 148, 153, 0, 5]
def kCL_11 : List Nat := [3, 172, 167, 16, 35, 43, 42, 21, 4, 4, 96, 46, 42, 21, 4, 5, 96, 46, 42, 21, 4, 6, 96, 46, 45, 184, 0, 199, 54, 5, 44, 42]
def kCL_12 : List Nat := [21, 4, 4, 96, 46, 42, 21, 4, 5, 96, 46, 42, 21, 4, 6, 96, 46, 182, 0, 201, 54, 6, 44, 182, 0, 195, 21, 5, 159, 0, 5, 3]
def kCL_13 : List Nat := [172, 21, 5, 154, 0, 16, 45, 180, 0, 13, 21, 6, 133, 148, 153, 0, 5, 3, 172, 167, 15, 210, 43, 42, 21, 4, 4, 96, 46, 42, 21, 4]
def kCL_14 : List Nat := [5, 96, 46, 42, 21, 4, 6, 96, 46, 153, 0, 7, 4, 167, 0, 4, 3, 45, 184, 0, 202, 54, 5, 44, 42, 21, 4, 4, 96, 46, 42, 21]
def kCL_15 : List Nat := [4, 5, 96, 46, 42, 21, 4, 6, 96, 46, 153, 0, 7, 4, 167, 0, 4, 3, 182, 0, 205, 54, 6, 44, 182, 0, 195, 21, 5, 159, 0, 5]
def kCL_16 : List Nat := [3, 172, 21, 5, 154, 0, 16, 45, 180, 0, 13, 21, 6, 133, 148, 153, 0, 5, 3, 172, 167, 15, 113, 43, 42, 21, 4, 4, 96, 46, 42, 21]
def kCL_17 : List Nat := [4, 5, 96, 46, 42, 21, 4, 6, 96, 46, 153, 0, 7, 4, 167, 0, 4, 3, 45, 184, 0, 206, 54, 5, 44, 42, 21, 4, 4, 96, 46, 42]
def kCL_18 : List Nat := [21, 4, 5, 96, 46, 42, 21, 4, 6, 96, 46, 153, 0, 7, 4, 167, 0, 4, 3, 182, 0, 208, 54, 6, 44, 182, 0, 195, 21, 5, 159, 0]
def kCL_19 : List Nat := [5, 3, 172, 21, 5, 154, 0, 16, 45, 180, 0, 13, 21, 6, 133, 148, 153, 0, 5, 3, 172, 167, 15, 16, 43, 42, 21, 4, 4, 96, 46, 42]
def kCL_20 : List Nat := [21, 4, 5, 96, 46, 42, 21, 4, 6, 96, 46, 42, 21, 4, 7, 96, 46, 153, 0, 7, 4, 167, 0, 4, 3, 45, 184, 0, 209, 54, 5, 44]
def kCL_21 : List Nat := [42, 21, 4, 4, 96, 46, 42, 21, 4, 5, 96, 46, 42, 21, 4, 6, 96, 46, 42, 21, 4, 7, 96, 46, 153, 0, 7, 4, 167, 0, 4, 3]
def kCL_22 : List Nat := [182, 0, 212, 54, 6, 44, 182, 0, 195, 21, 5, 159, 0, 5, 3, 172, 21, 5, 154, 0, 16, 45, 180, 0, 13, 21, 6, 133, 148, 153, 0, 5]
def kCL_23 : List Nat := [3, 172, 167, 14, 163, 43, 42, 21, 4, 4, 96, 46, 42, 21, 4, 5, 96, 46, 42, 21, 4, 6, 96, 46, 42, 21, 4, 7, 96, 46, 153, 0]
def kCL_24 : List Nat := [7, 4, 167, 0, 4, 3, 45, 184, 0, 213, 54, 5, 44, 42, 21, 4, 4, 96, 46, 42, 21, 4, 5, 96, 46, 42, 21, 4, 6, 96, 46, 42]
def kCL_25 : List Nat := [21, 4, 7, 96, 46, 153, 0, 7, 4, 167, 0, 4, 3, 182, 0, 215, 54, 6, 44, 182, 0, 195, 21, 5, 159, 0, 5, 3, 172, 21, 5, 154]
def kCL_26 : List Nat := [0, 16, 45, 180, 0, 13, 21, 6, 133, 148, 153, 0, 5, 3, 172, 167, 14, 54, 43, 42, 21, 4, 4, 96, 46, 42, 21, 4, 5, 96, 46, 45]
def kCL_27 : List Nat := [184, 0, 216, 54, 5, 44, 42, 21, 4, 4, 96, 46, 42, 21, 4, 5, 96, 46, 182, 0, 219, 54, 6, 44, 182, 0, 195, 21, 5, 159, 0, 5]
def kCL_28 : List Nat := [3, 172, 21, 5, 154, 0, 16, 45, 180, 0, 13, 21, 6, 133, 148, 153, 0, 5, 3, 172, 167, 13, 241, 43, 42, 21, 4, 4, 96, 46, 42, 21]
def kCL_29 : List Nat := [4, 5, 96, 46, 45, 184, 0, 220, 54, 5, 44, 42, 21, 4, 4, 96, 46, 42, 21, 4, 5, 96, 46, 182, 0, 222, 54, 6, 44, 182, 0, 195]
def kCL_30 : List Nat := [21, 5, 159, 0, 5, 3, 172, 21, 5, 154, 0, 16, 45, 180, 0, 13, 21, 6, 133, 148, 153, 0, 5, 3, 172, 167, 13, 172, 43, 42, 21, 4]
def kCL_31 : List Nat := [4, 96, 46, 42, 21, 4, 5, 96, 46, 42, 21, 4, 6, 96, 46, 45, 184, 0, 223, 54, 5, 44, 42, 21, 4, 4, 96, 46, 42, 21, 4, 5]
def kCL_32 : List Nat := [96, 46, 42, 21, 4, 6, 96, 46, 182, 0, 225, 54, 6, 44, 182, 0, 195, 21, 5, 159, 0, 5, 3, 172, 21, 5, 154, 0, 16, 45, 180, 0]
def kCL_33 : List Nat := [13, 21, 6, 133, 148, 153, 0, 5, 3, 172, 167, 13, 91, 43, 42, 21, 4, 4, 96, 46, 42, 21, 4, 5, 96, 46, 42, 21, 4, 6, 96, 46]
def kCL_34 : List Nat := [45, 184, 0, 226, 54, 5, 44, 42, 21, 4, 4, 96, 46, 42, 21, 4, 5, 96, 46, 42, 21, 4, 6, 96, 46, 182, 0, 228, 54, 6, 44, 182]
def kCL_35 : List Nat := [0, 195, 21, 5, 159, 0, 5, 3, 172, 21, 5, 154, 0, 16, 45, 180, 0, 13, 21, 6, 133, 148, 153, 0, 5, 3, 172, 167, 13, 10, 43, 42]
def kCL_36 : List Nat := [21, 4, 4, 96, 46, 42, 21, 4, 5, 96, 46, 42, 21, 4, 6, 96, 46, 45, 184, 0, 229, 54, 5, 44, 42, 21, 4, 4, 96, 46, 42, 21]
def kCL_37 : List Nat := [4, 5, 96, 46, 42, 21, 4, 6, 96, 46, 182, 0, 231, 54, 6, 44, 182, 0, 195, 21, 5, 159, 0, 5, 3, 172, 21, 5, 154, 0, 16, 45]
def kCL_38 : List Nat := [180, 0, 13, 21, 6, 133, 148, 153, 0, 5, 3, 172, 167, 12, 185, 43, 42, 21, 4, 4, 96, 46, 42, 21, 4, 5, 96, 46, 45, 184, 0, 232]
def kCL_39 : List Nat := [54, 5, 44, 42, 21, 4, 4, 96, 46, 42, 21, 4, 5, 96, 46, 182, 0, 234, 54, 6, 44, 182, 0, 195, 21, 5, 159, 0, 5, 3, 172, 21]
def kCL_40 : List Nat := [5, 154, 0, 16, 45, 180, 0, 13, 21, 6, 133, 148, 153, 0, 5, 3, 172, 167, 12, 116, 43, 42, 21, 4, 4, 96, 46, 42, 21, 4, 5, 96]
def kCL_41 : List Nat := [46, 45, 184, 0, 235, 54, 5, 44, 42, 21, 4, 4, 96, 46, 42, 21, 4, 5, 96, 46, 182, 0, 237, 54, 6, 44, 182, 0, 195, 21, 5, 159]
def kCL_42 : List Nat := [0, 5, 3, 172, 21, 5, 154, 0, 16, 45, 180, 0, 13, 21, 6, 133, 148, 153, 0, 5, 3, 172, 167, 12, 47, 43, 42, 21, 4, 4, 96, 46]
def kCL_43 : List Nat := [42, 21, 4, 5, 96, 46, 45, 184, 0, 238, 54, 5, 44, 42, 21, 4, 4, 96, 46, 42, 21, 4, 5, 96, 46, 182, 0, 240, 54, 6, 44, 182]
def kCL_44 : List Nat := [0, 195, 21, 5, 159, 0, 5, 3, 172, 21, 5, 154, 0, 16, 45, 180, 0, 13, 21, 6, 133, 148, 153, 0, 5, 3, 172, 167, 11, 234, 43, 42]
def kCL_45 : List Nat := [21, 4, 4, 96, 46, 42, 21, 4, 5, 96, 46, 42, 21, 4, 6, 96, 46, 153, 0, 7, 4, 167, 0, 4, 3, 45, 184, 0, 241, 54, 5, 44]
def kCL_46 : List Nat := [42, 21, 4, 4, 96, 46, 42, 21, 4, 5, 96, 46, 42, 21, 4, 6, 96, 46, 153, 0, 7, 4, 167, 0, 4, 3, 182, 0, 243, 54, 6, 44]
def kCL_47 : List Nat := [182, 0, 195, 21, 5, 159, 0, 5, 3, 172, 21, 5, 154, 0, 16, 45, 180, 0, 13, 21, 6, 133, 148, 153, 0, 5, 3, 172, 167, 11, 137, 43]
def kCL_48 : List Nat := [42, 21, 4, 4, 96, 46, 42, 21, 4, 5, 96, 46, 42, 21, 4, 6, 96, 46, 42, 21, 4, 7, 96, 46, 153, 0, 7, 4, 167, 0, 4, 3]
def kCL_49 : List Nat := [45, 184, 0, 244, 54, 5, 44, 42, 21, 4, 4, 96, 46, 42, 21, 4, 5, 96, 46, 42, 21, 4, 6, 96, 46, 42, 21, 4, 7, 96, 46, 153]
def kCL_50 : List Nat := [0, 7, 4, 167, 0, 4, 3, 182, 0, 246, 54, 6, 44, 182, 0, 195, 21, 5, 159, 0, 5, 3, 172, 21, 5, 154, 0, 16, 45, 180, 0, 13]
def kCL_51 : List Nat := [21, 6, 133, 148, 153, 0, 5, 3, 172, 167, 11, 28, 43, 42, 21, 4, 4, 96, 46, 42, 21, 4, 5, 96, 46, 42, 21, 4, 6, 96, 46, 45]
def kCL_52 : List Nat := [184, 0, 247, 54, 5, 44, 42, 21, 4, 4, 96, 46, 42, 21, 4, 5, 96, 46, 42, 21, 4, 6, 96, 46, 182, 0, 249, 54, 6, 44, 182, 0]
def kCL_53 : List Nat := [195, 21, 5, 159, 0, 5, 3, 172, 21, 5, 154, 0, 16, 45, 180, 0, 13, 21, 6, 133, 148, 153, 0, 5, 3, 172, 167, 10, 203, 43, 42, 21]
def kCL_54 : List Nat := [4, 4, 96, 46, 42, 21, 4, 5, 96, 46, 153, 0, 7, 4, 167, 0, 4, 3, 42, 21, 4, 6, 96, 46, 45, 184, 0, 250, 54, 5, 44, 42]
def kCL_55 : List Nat := [21, 4, 4, 96, 46, 42, 21, 4, 5, 96, 46, 153, 0, 7, 4, 167, 0, 4, 3, 42, 21, 4, 6, 96, 46, 182, 0, 253, 54, 6, 44, 182]
def kCL_56 : List Nat := [0, 195, 21, 5, 159, 0, 5, 3, 172, 21, 5, 154, 0, 16, 45, 180, 0, 13, 21, 6, 133, 148, 153, 0, 5, 3, 172, 167, 10, 106, 43, 42]
def kCL_57 : List Nat := [21, 4, 4, 96, 46, 42, 21, 4, 5, 96, 46, 45, 184, 0, 254, 54, 5, 44, 42, 21, 4, 4, 96, 46, 42, 21, 4, 5, 96, 46, 182, 1]
def kCL_58 : List Nat := [0, 54, 6, 44, 182, 0, 195, 21, 5, 159, 0, 5, 3, 172, 21, 5, 154, 0, 16, 45, 180, 0, 13, 21, 6, 133, 148, 153, 0, 5, 3, 172]
def kCL_59 : List Nat := [167, 10, 37, 43, 42, 21, 4, 4, 96, 46, 42, 21, 4, 5, 96, 46, 42, 21, 4, 6, 96, 46, 45, 184, 1, 1, 54, 5, 44, 42, 21, 4]
def kCL_60 : List Nat := [4, 96, 46, 42, 21, 4, 5, 96, 46, 42, 21, 4, 6, 96, 46, 182, 1, 3, 54, 6, 44, 182, 0, 195, 21, 5, 159, 0, 5, 3, 172, 21]
def kCL_61 : List Nat := [5, 154, 0, 16, 45, 180, 0, 13, 21, 6, 133, 148, 153, 0, 5, 3, 172, 167, 9, 212, 43, 42, 21, 4, 4, 96, 46, 42, 21, 4, 5, 96]
def kCL_62 : List Nat := [46, 42, 21, 4, 6, 96, 46, 45, 184, 1, 4, 54, 5, 44, 42, 21, 4, 4, 96, 46, 42, 21, 4, 5, 96, 46, 42, 21, 4, 6, 96, 46]
def kCL_63 : List Nat := [182, 1, 6, 54, 6, 44, 182, 0, 195, 21, 5, 159, 0, 5, 3, 172, 21, 5, 154, 0, 16, 45, 180, 0, 13, 21, 6, 133, 148, 153, 0, 5]
def kCL_64 : List Nat := [3, 172, 167, 9, 131, 43, 42, 21, 4, 4, 96, 46, 42, 21, 4, 5, 96, 46, 42, 21, 4, 6, 96, 46, 153, 0, 7, 4, 167, 0, 4, 3]
def kCL_65 : List Nat := [45, 184, 1, 7, 54, 5, 44, 42, 21, 4, 4, 96, 46, 42, 21, 4, 5, 96, 46, 42, 21, 4, 6, 96, 46, 153, 0, 7, 4, 167, 0, 4]
def kCL_66 : List Nat := [3, 182, 1, 9, 54, 6, 44, 182, 0, 195, 21, 5, 159, 0, 5, 3, 172, 21, 5, 154, 0, 16, 45, 180, 0, 13, 21, 6, 133, 148, 153, 0]
def kCL_67 : List Nat := [5, 3, 172, 167, 9, 34, 43, 42, 21, 4, 4, 96, 46, 42, 21, 4, 5, 96, 46, 42, 21, 4, 6, 96, 46, 153, 0, 7, 4, 167, 0, 4]
def kCL_68 : List Nat := [3, 45, 184, 1, 10, 54, 5, 44, 42, 21, 4, 4, 96, 46, 42, 21, 4, 5, 96, 46, 42, 21, 4, 6, 96, 46, 153, 0, 7, 4, 167, 0]
def kCL_69 : List Nat := [4, 3, 182, 1, 12, 54, 6, 44, 182, 0, 195, 21, 5, 159, 0, 5, 3, 172, 21, 5, 154, 0, 16, 45, 180, 0, 13, 21, 6, 133, 148, 153]
def kCL_70 : List Nat := [0, 5, 3, 172, 167, 8, 193, 43, 42, 21, 4, 4, 96, 46, 42, 21, 4, 5, 96, 46, 45, 184, 1, 13, 54, 5, 44, 42, 21, 4, 4, 96]
def kCL_71 : List Nat := [46, 42, 21, 4, 5, 96, 46, 182, 1, 15, 54, 6, 44, 182, 0, 195, 21, 5, 159, 0, 5, 3, 172, 21, 5, 154, 0, 16, 45, 180, 0, 13]
def kCL_72 : List Nat := [21, 6, 133, 148, 153, 0, 5, 3, 172, 167, 8, 124, 43, 42, 21, 4, 4, 96, 46, 42, 21, 4, 5, 96, 46, 45, 184, 1, 16, 54, 5, 44]
def kCL_73 : List Nat := [42, 21, 4, 4, 96, 46, 42, 21, 4, 5, 96, 46, 182, 1, 18, 54, 6, 44, 182, 0, 195, 21, 5, 159, 0, 5, 3, 172, 21, 5, 154, 0]
def kCL_74 : List Nat := [16, 45, 180, 0, 13, 21, 6, 133, 148, 153, 0, 5, 3, 172, 167, 8, 55, 43, 42, 21, 4, 4, 96, 46, 42, 21, 4, 5, 96, 46, 42, 21]
def kCL_75 : List Nat := [4, 6, 96, 46, 45, 184, 1, 19, 54, 5, 44, 42, 21, 4, 4, 96, 46, 42, 21, 4, 5, 96, 46, 42, 21, 4, 6, 96, 46, 182, 1, 21]
def kCL_76 : List Nat := [54, 6, 44, 182, 0, 195, 21, 5, 159, 0, 5, 3, 172, 21, 5, 154, 0, 16, 45, 180, 0, 13, 21, 6, 133, 148, 153, 0, 5, 3, 172, 167]
def kCL_77 : List Nat := [7, 230, 43, 42, 21, 4, 4, 96, 46, 42, 21, 4, 5, 96, 46, 45, 184, 1, 22, 54, 5, 44, 42, 21, 4, 4, 96, 46, 42, 21, 4, 5]
def kCL_78 : List Nat := [96, 46, 182, 1, 24, 54, 6, 44, 182, 0, 195, 21, 5, 159, 0, 5, 3, 172, 21, 5, 154, 0, 16, 45, 180, 0, 13, 21, 6, 133, 148, 153]
def kCL_79 : List Nat := [0, 5, 3, 172, 167, 7, 161, 43, 42, 21, 4, 4, 96, 46, 42, 21, 4, 5, 96, 46, 42, 21, 4, 6, 96, 46, 45, 184, 1, 25, 54, 5]
def kCL_80 : List Nat := [44, 42, 21, 4, 4, 96, 46, 42, 21, 4, 5, 96, 46, 42, 21, 4, 6, 96, 46, 182, 1, 27, 54, 6, 44, 182, 0, 195, 21, 5, 159, 0]
def kCL_81 : List Nat := [5, 3, 172, 21, 5, 154, 0, 16, 45, 180, 0, 13, 21, 6, 133, 148, 153, 0, 5, 3, 172, 167, 7, 80, 43, 42, 21, 4, 4, 96, 46, 42]
def kCL_82 : List Nat := [21, 4, 5, 96, 46, 42, 21, 4, 6, 96, 46, 45, 184, 1, 28, 54, 5, 44, 42, 21, 4, 4, 96, 46, 42, 21, 4, 5, 96, 46, 42, 21]
def kCL_83 : List Nat := [4, 6, 96, 46, 182, 1, 30, 54, 6, 44, 182, 0, 195, 21, 5, 159, 0, 5, 3, 172, 21, 5, 154, 0, 16, 45, 180, 0, 13, 21, 6, 133]
def kCL_84 : List Nat := [148, 153, 0, 5, 3, 172, 167, 6, 255, 43, 42, 21, 4, 4, 96, 46, 42, 21, 4, 5, 96, 46, 42, 21, 4, 6, 96, 46, 45, 184, 1, 31]
def kCL_85 : List Nat := [54, 5, 44, 42, 21, 4, 4, 96, 46, 42, 21, 4, 5, 96, 46, 42, 21, 4, 6, 96, 46, 182, 1, 33, 54, 6, 44, 182, 0, 195, 21, 5]
def kCL_86 : List Nat := [159, 0, 5, 3, 172, 21, 5, 154, 0, 16, 45, 180, 0, 13, 21, 6, 133, 148, 153, 0, 5, 3, 172, 167, 6, 174, 43, 42, 21, 4, 4, 96]
def kCL_87 : List Nat := [46, 42, 21, 4, 5, 96, 46, 45, 184, 1, 34, 54, 5, 44, 42, 21, 4, 4, 96, 46, 42, 21, 4, 5, 96, 46, 182, 1, 36, 54, 6, 44]
def kCL_88 : List Nat := [182, 0, 195, 21, 5, 159, 0, 5, 3, 172, 21, 5, 154, 0, 16, 45, 180, 0, 13, 21, 6, 133, 148, 153, 0, 5, 3, 172, 167, 6, 105, 43]
def kCL_89 : List Nat := [42, 21, 4, 4, 96, 46, 45, 184, 1, 37, 54, 5, 44, 42, 21, 4, 4, 96, 46, 182, 1, 40, 58, 6, 44, 182, 0, 195, 21, 5, 159, 0]
def kCL_90 : List Nat := [5, 3, 172, 21, 5, 154, 0, 17, 45, 180, 0, 121, 25, 6, 182, 1, 41, 154, 0, 5, 3, 172, 167, 6, 47, 43, 42, 21, 4, 4, 96, 46]
def kCL_91 : List Nat := [42, 21, 4, 5, 96, 46, 45, 184, 1, 47, 54, 5, 44, 42, 21, 4, 4, 96, 46, 42, 21, 4, 5, 96, 46, 182, 1, 49, 54, 6, 44, 182]
def kCL_92 : List Nat := [0, 195, 21, 5, 159, 0, 5, 3, 172, 21, 5, 154, 0, 23, 45, 180, 0, 13, 21, 6, 153, 0, 7, 10, 167, 0, 4, 9, 148, 153, 0, 5]
def kCL_93 : List Nat := [3, 172, 167, 5, 227, 43, 42, 21, 4, 4, 96, 46, 42, 21, 4, 5, 96, 46, 42, 21, 4, 6, 96, 46, 45, 184, 1, 50, 54, 5, 44, 42]
def kCL_94 : List Nat := [21, 4, 4, 96, 46, 42, 21, 4, 5, 96, 46, 42, 21, 4, 6, 96, 46, 182, 1, 52, 54, 6, 44, 182, 0, 195, 21, 5, 159, 0, 5, 3]
def kCL_95 : List Nat := [172, 21, 5, 154, 0, 16, 45, 180, 0, 13, 21, 6, 133, 148, 153, 0, 5, 3, 172, 167, 5, 146, 43, 42, 21, 4, 4, 96, 46, 42, 21, 4]
def kCL_96 : List Nat := [5, 96, 46, 42, 21, 4, 6, 96, 46, 45, 184, 1, 53, 54, 5, 44, 42, 21, 4, 4, 96, 46, 42, 21, 4, 5, 96, 46, 42, 21, 4, 6]
def kCL_97 : List Nat := [96, 46, 182, 1, 55, 54, 6, 44, 182, 0, 195, 21, 5, 159, 0, 5, 3, 172, 21, 5, 154, 0, 23, 45, 180, 0, 13, 21, 6, 153, 0, 7]
def kCL_98 : List Nat := [10, 167, 0, 4, 9, 148, 153, 0, 5, 3, 172, 167, 5, 58, 43, 42, 21, 4, 4, 96, 46, 42, 21, 4, 5, 96, 46, 42, 21, 4, 6, 96]
def kCL_99 : List Nat := [46, 42, 21, 4, 7, 96, 46, 153, 0, 7, 4, 167, 0, 4, 3, 45, 184, 1, 56, 54, 5, 44, 42, 21, 4, 4, 96, 46, 42, 21, 4, 5]
def kCL_100 : List Nat := [96, 46, 42, 21, 4, 6, 96, 46, 42, 21, 4, 7, 96, 46, 153, 0, 7, 4, 167, 0, 4, 3, 182, 1, 58, 58, 6, 44, 182, 0, 195, 21]
def kCL_101 : List Nat := [5, 159, 0, 5, 3, 172, 21, 5, 154, 0, 17, 45, 180, 0, 121, 25, 6, 182, 1, 41, 154, 0, 5, 3, 172, 167, 4, 204, 43, 42, 21, 4]
def kCL_102 : List Nat := [4, 96, 46, 42, 21, 4, 5, 96, 46, 45, 184, 1, 59, 54, 5, 44, 42, 21, 4, 4, 96, 46, 42, 21, 4, 5, 96, 46, 182, 1, 61, 54]
def kCL_103 : List Nat := [6, 44, 182, 0, 195, 21, 5, 159, 0, 5, 3, 172, 21, 5, 154, 0, 16, 45, 180, 0, 13, 21, 6, 133, 148, 153, 0, 5, 3, 172, 167, 4]
def kCL_104 : List Nat := [135, 43, 42, 21, 4, 4, 96, 46, 42, 21, 4, 5, 96, 46, 182, 1, 62, 44, 42, 21, 4, 4, 96, 46, 42, 21, 4, 5, 96, 46, 182, 1]
def kCL_105 : List Nat := [65, 159, 4, 100, 3, 172, 43, 42, 21, 4, 4, 96, 46, 42, 21, 4, 5, 96, 46, 42, 21, 4, 6, 96, 46, 153, 0, 7, 4, 167, 0, 4]
def kCL_106 : List Nat := [3, 45, 184, 1, 66, 54, 5, 44, 42, 21, 4, 4, 96, 46, 42, 21, 4, 5, 96, 46, 42, 21, 4, 6, 96, 46, 153, 0, 7, 4, 167, 0]
def kCL_107 : List Nat := [4, 3, 182, 1, 68, 54, 6, 44, 182, 0, 195, 21, 5, 159, 0, 5, 3, 172, 21, 5, 154, 0, 23, 45, 180, 0, 13, 21, 6, 153, 0, 7]
def kCL_108 : List Nat := [10, 167, 0, 4, 9, 148, 153, 0, 5, 3, 172, 167, 3, 250, 43, 42, 21, 4, 4, 96, 46, 42, 21, 4, 5, 96, 46, 42, 21, 4, 6, 96]
def kCL_109 : List Nat := [46, 45, 184, 1, 69, 54, 5, 44, 42, 21, 4, 4, 96, 46, 42, 21, 4, 5, 96, 46, 42, 21, 4, 6, 96, 46, 182, 1, 71, 54, 6, 44]
def kCL_110 : List Nat := [182, 0, 195, 21, 5, 159, 0, 5, 3, 172, 21, 5, 154, 0, 16, 45, 180, 0, 13, 21, 6, 133, 148, 153, 0, 5, 3, 172, 167, 3, 169, 43]
def kCL_111 : List Nat := [42, 21, 4, 4, 96, 46, 42, 21, 4, 5, 96, 46, 42, 21, 4, 6, 96, 46, 45, 184, 1, 72, 54, 5, 44, 42, 21, 4, 4, 96, 46, 42]
def kCL_112 : List Nat := [21, 4, 5, 96, 46, 42, 21, 4, 6, 96, 46, 182, 1, 74, 54, 6, 44, 182, 0, 195, 21, 5, 159, 0, 5, 3, 172, 21, 5, 154, 0, 23]
def kCL_113 : List Nat := [45, 180, 0, 13, 21, 6, 153, 0, 7, 10, 167, 0, 4, 9, 148, 153, 0, 5, 3, 172, 167, 3, 81, 43, 42, 21, 4, 4, 96, 46, 42, 21]
def kCL_114 : List Nat := [4, 5, 96, 46, 42, 21, 4, 6, 96, 46, 42, 21, 4, 7, 96, 46, 153, 0, 7, 4, 167, 0, 4, 3, 45, 184, 1, 75, 54, 5, 44, 42]
def kCL_115 : List Nat := [21, 4, 4, 96, 46, 42, 21, 4, 5, 96, 46, 42, 21, 4, 6, 96, 46, 42, 21, 4, 7, 96, 46, 153, 0, 7, 4, 167, 0, 4, 3, 182]
def kCL_116 : List Nat := [1, 77, 58, 6, 44, 182, 0, 195, 21, 5, 159, 0, 5, 3, 172, 21, 5, 154, 0, 17, 45, 180, 0, 121, 25, 6, 182, 1, 41, 154, 0, 5]
def kCL_117 : List Nat := [3, 172, 167, 2, 227, 43, 42, 21, 4, 4, 96, 46, 42, 21, 4, 5, 96, 46, 45, 184, 1, 78, 54, 5, 44, 42, 21, 4, 4, 96, 46, 42]
def kCL_118 : List Nat := [21, 4, 5, 96, 46, 182, 1, 80, 54, 6, 44, 182, 0, 195, 21, 5, 159, 0, 5, 3, 172, 21, 5, 154, 0, 16, 45, 180, 0, 13, 21, 6]
def kCL_119 : List Nat := [133, 148, 153, 0, 5, 3, 172, 167, 2, 158, 43, 42, 21, 4, 4, 96, 46, 42, 21, 4, 5, 96, 46, 45, 184, 1, 81, 54, 5, 44, 42, 21]
def kCL_120 : List Nat := [4, 4, 96, 46, 42, 21, 4, 5, 96, 46, 182, 1, 83, 54, 6, 44, 182, 0, 195, 21, 5, 159, 0, 5, 3, 172, 21, 5, 154, 0, 23, 45]
def kCL_121 : List Nat := [180, 0, 13, 21, 6, 153, 0, 7, 10, 167, 0, 4, 9, 148, 153, 0, 5, 3, 172, 167, 2, 82, 43, 42, 21, 4, 4, 96, 46, 42, 21, 4]
def kCL_122 : List Nat := [5, 96, 46, 42, 21, 4, 6, 96, 46, 45, 184, 1, 84, 54, 5, 44, 42, 21, 4, 4, 96, 46, 42, 21, 4, 5, 96, 46, 42, 21, 4, 6]
def kCL_123 : List Nat := [96, 46, 182, 1, 86, 54, 6, 44, 182, 0, 195, 21, 5, 159, 0, 5, 3, 172, 21, 5, 154, 0, 16, 45, 180, 0, 13, 21, 6, 133, 148, 153]
def kCL_124 : List Nat := [0, 5, 3, 172, 167, 2, 1, 43, 42, 21, 4, 4, 96, 46, 42, 21, 4, 5, 96, 46, 42, 21, 4, 6, 96, 46, 45, 184, 1, 87, 54, 5]
def kCL_125 : List Nat := [44, 42, 21, 4, 4, 96, 46, 42, 21, 4, 5, 96, 46, 42, 21, 4, 6, 96, 46, 182, 1, 89, 54, 6, 44, 182, 0, 195, 21, 5, 159, 0]
def kCL_126 : List Nat := [5, 3, 172, 21, 5, 154, 0, 23, 45, 180, 0, 13, 21, 6, 153, 0, 7, 10, 167, 0, 4, 9, 148, 153, 0, 5, 3, 172, 167, 1, 169, 43]
def kCL_127 : List Nat := [42, 21, 4, 4, 96, 46, 42, 21, 4, 5, 96, 46, 45, 184, 1, 90, 54, 5, 44, 42, 21, 4, 4, 96, 46, 42, 21, 4, 5, 96, 46, 182]
def kCL_128 : List Nat := [1, 92, 54, 6, 44, 182, 0, 195, 21, 5, 159, 0, 5, 3, 172, 21, 5, 154, 0, 16, 45, 180, 0, 13, 21, 6, 133, 148, 153, 0, 5, 3]
def kCL_129 : List Nat := [172, 167, 1, 100, 43, 42, 21, 4, 4, 96, 46, 45, 184, 1, 93, 54, 5, 44, 42, 21, 4, 4, 96, 46, 182, 1, 95, 58, 6, 44, 182, 0]
def kCL_130 : List Nat := [195, 21, 5, 159, 0, 5, 3, 172, 21, 5, 154, 0, 17, 45, 180, 0, 121, 25, 6, 182, 1, 41, 154, 0, 5, 3, 172, 167, 1, 42, 43, 42]
def kCL_131 : List Nat := [21, 4, 4, 96, 46, 42, 21, 4, 5, 96, 46, 42, 21, 4, 6, 96, 46, 45, 184, 1, 96, 54, 5, 44, 42, 21, 4, 4, 96, 46, 42, 21]
def kCL_132 : List Nat := [4, 5, 96, 46, 42, 21, 4, 6, 96, 46, 182, 1, 98, 54, 6, 44, 182, 0, 195, 21, 5, 159, 0, 5, 3, 172, 21, 5, 154, 0, 16, 45]
def kCL_133 : List Nat := [180, 0, 13, 21, 6, 133, 148, 153, 0, 5, 3, 172, 167, 0, 217, 43, 42, 21, 4, 4, 96, 46, 42, 21, 4, 5, 96, 46, 45, 184, 1, 99]
def kCL_134 : List Nat := [54, 5, 44, 42, 21, 4, 4, 96, 46, 42, 21, 4, 5, 96, 46, 182, 1, 101, 54, 6, 44, 182, 0, 195, 21, 5, 159, 0, 5, 3, 172, 21]
def kCL_135 : List Nat := [5, 154, 0, 23, 45, 180, 0, 13, 21, 6, 153, 0, 7, 10, 167, 0, 4, 9, 148, 153, 0, 5, 3, 172, 167, 0, 141, 43, 42, 21, 4, 4]
def kCL_136 : List Nat := [96, 46, 153, 0, 7, 4, 167, 0, 4, 3, 182, 1, 102, 44, 42, 21, 4, 4, 96, 46, 153, 0, 7, 4, 167, 0, 4, 3, 182, 1, 106, 159]
def kCL_137 : List Nat := [0, 102, 3, 172, 43, 182, 1, 107, 44, 182, 1, 110, 159, 0, 89, 3, 172, 43, 42, 21, 4, 4, 96, 46, 45, 184, 1, 111, 54, 5, 44, 42]
def kCL_138 : List Nat := [21, 4, 4, 96, 46, 182, 1, 113, 54, 6, 44, 182, 0, 195, 21, 5, 159, 0, 5, 3, 172, 21, 5, 154, 0, 16, 45, 180, 0, 13, 21, 6]
def kCL_139 : List Nat := [133, 148, 153, 0, 5, 3, 172, 167, 0, 30, 43, 182, 1, 114, 44, 182, 1, 118, 159, 0, 19, 3, 172, 43, 182, 1, 119, 44, 182, 1, 123, 148]
def kCL_140 : List Nat := [153, 0, 5, 3, 172, 132, 4, 5, 167, 238, 147, 4, 172]
def kRL_141 : List Nat := []
def kRL_140 : List Nat := kCL_140 ++ kRL_141
def kRL_139 : List Nat := kCL_139 ++ kRL_140
def kRL_138 : List Nat := kCL_138 ++ kRL_139
def kRL_137 : List Nat := kCL_137 ++ kRL_138
def kRL_136 : List Nat := kCL_136 ++ kRL_137
def kRL_135 : List Nat := kCL_135 ++ kRL_136
def kRL_134 : List Nat := kCL_134 ++ kRL_135
def kRL_133 : List Nat := kCL_133 ++ kRL_134
def kRL_132 : List Nat := kCL_132 ++ kRL_133
def kRL_131 : List Nat := kCL_131 ++ kRL_132
def kRL_130 : List Nat := kCL_130 ++ kRL_131
def kRL_129 : List Nat := kCL_129 ++ kRL_130
def kRL_128 : List Nat := kCL_128 ++ kRL_129
def kRL_127 : List Nat := kCL_127 ++ kRL_128
def kRL_126 : List Nat := kCL_126 ++ kRL_127
def kRL_125 : List Nat := kCL_125 ++ kRL_126
def kRL_124 : List Nat := kCL_124 ++ kRL_125
def kRL_123 : List Nat := kCL_123 ++ kRL_124
def kRL_122 : List Nat := kCL_122 ++ kRL_123
def kRL_121 : List Nat := kCL_121 ++ kRL_122
def kRL_120 : List Nat := kCL_120 ++ kRL_121
def kRL_119 : List Nat := kCL_119 ++ kRL_120
def kRL_118 : List Nat := kCL_118 ++ kRL_119
def kRL_117 : List Nat := kCL_117 ++ kRL_118
def kRL_116 : List Nat := kCL_116 ++ kRL_117
def kRL_115 : List Nat := kCL_115 ++ kRL_116
def kRL_114 : List Nat := kCL_114 ++ kRL_115
def kRL_113 : List Nat := kCL_113 ++ kRL_114
def kRL_112 : List Nat := kCL_112 ++ kRL_113
def kRL_111 : List Nat := kCL_111 ++ kRL_112
def kRL_110 : List Nat := kCL_110 ++ kRL_111
def kRL_109 : List Nat := kCL_109 ++ kRL_110
def kRL_108 : List Nat := kCL_108 ++ kRL_109
def kRL_107 : List Nat := kCL_107 ++ kRL_108
def kRL_106 : List Nat := kCL_106 ++ kRL_107
def kRL_105 : List Nat := kCL_105 ++ kRL_106
def kRL_104 : List Nat := kCL_104 ++ kRL_105
def kRL_103 : List Nat := kCL_103 ++ kRL_104
def kRL_102 : List Nat := kCL_102 ++ kRL_103
def kRL_101 : List Nat := kCL_101 ++ kRL_102
def kRL_100 : List Nat := kCL_100 ++ kRL_101
def kRL_99 : List Nat := kCL_99 ++ kRL_100
def kRL_98 : List Nat := kCL_98 ++ kRL_99
def kRL_97 : List Nat := kCL_97 ++ kRL_98
def kRL_96 : List Nat := kCL_96 ++ kRL_97
def kRL_95 : List Nat := kCL_95 ++ kRL_96
def kRL_94 : List Nat := kCL_94 ++ kRL_95
def kRL_93 : List Nat := kCL_93 ++ kRL_94
def kRL_92 : List Nat := kCL_92 ++ kRL_93
def kRL_91 : List Nat := kCL_91 ++ kRL_92
def kRL_90 : List Nat := kCL_90 ++ kRL_91
def kRL_89 : List Nat := kCL_89 ++ kRL_90
def kRL_88 : List Nat := kCL_88 ++ kRL_89
def kRL_87 : List Nat := kCL_87 ++ kRL_88
def kRL_86 : List Nat := kCL_86 ++ kRL_87
def kRL_85 : List Nat := kCL_85 ++ kRL_86
def kRL_84 : List Nat := kCL_84 ++ kRL_85
def kRL_83 : List Nat := kCL_83 ++ kRL_84
def kRL_82 : List Nat := kCL_82 ++ kRL_83
def kRL_81 : List Nat := kCL_81 ++ kRL_82
def kRL_80 : List Nat := kCL_80 ++ kRL_81
def kRL_79 : List Nat := kCL_79 ++ kRL_80
def kRL_78 : List Nat := kCL_78 ++ kRL_79
def kRL_77 : List Nat := kCL_77 ++ kRL_78
def kRL_76 : List Nat := kCL_76 ++ kRL_77
def kRL_75 : List Nat := kCL_75 ++ kRL_76
def kRL_74 : List Nat := kCL_74 ++ kRL_75
def kRL_73 : List Nat := kCL_73 ++ kRL_74
def kRL_72 : List Nat := kCL_72 ++ kRL_73
def kRL_71 : List Nat := kCL_71 ++ kRL_72
def kRL_70 : List Nat := kCL_70 ++ kRL_71
def kRL_69 : List Nat := kCL_69 ++ kRL_70
def kRL_68 : List Nat := kCL_68 ++ kRL_69
def kRL_67 : List Nat := kCL_67 ++ kRL_68
def kRL_66 : List Nat := kCL_66 ++ kRL_67
def kRL_65 : List Nat := kCL_65 ++ kRL_66
def kRL_64 : List Nat := kCL_64 ++ kRL_65
def kRL_63 : List Nat := kCL_63 ++ kRL_64
def kRL_62 : List Nat := kCL_62 ++ kRL_63
def kRL_61 : List Nat := kCL_61 ++ kRL_62
def kRL_60 : List Nat := kCL_60 ++ kRL_61
def kRL_59 : List Nat := kCL_59 ++ kRL_60
def kRL_58 : List Nat := kCL_58 ++ kRL_59
def kRL_57 : List Nat := kCL_57 ++ kRL_58
def kRL_56 : List Nat := kCL_56 ++ kRL_57
def kRL_55 : List Nat := kCL_55 ++ kRL_56
def kRL_54 : List Nat := kCL_54 ++ kRL_55
def kRL_53 : List Nat := kCL_53 ++ kRL_54
def kRL_52 : List Nat := kCL_52 ++ kRL_53
def kRL_51 : List Nat := kCL_51 ++ kRL_52
def kRL_50 : List Nat := kCL_50 ++ kRL_51
def kRL_49 : List Nat := kCL_49 ++ kRL_50
def kRL_48 : List Nat := kCL_48 ++ kRL_49
def kRL_47 : List Nat := kCL_47 ++ kRL_48
def kRL_46 : List Nat := kCL_46 ++ kRL_47
def kRL_45 : List Nat := kCL_45 ++ kRL_46
def kRL_44 : List Nat := kCL_44 ++ kRL_45
def kRL_43 : List Nat := kCL_43 ++ kRL_44
def kRL_42 : List Nat := kCL_42 ++ kRL_43
def kRL_41 : List Nat := kCL_41 ++ kRL_42
def kRL_40 : List Nat := kCL_40 ++ kRL_41
def kRL_39 : List Nat := kCL_39 ++ kRL_40
def kRL_38 : List Nat := kCL_38 ++ kRL_39
def kRL_37 : List Nat := kCL_37 ++ kRL_38
def kRL_36 : List Nat := kCL_36 ++ kRL_37
def kRL_35 : List Nat := kCL_35 ++ kRL_36
def kRL_34 : List Nat := kCL_34 ++ kRL_35
def kRL_33 : List Nat := kCL_33 ++ kRL_34
def kRL_32 : List Nat := kCL_32 ++ kRL_33
def kRL_31 : List Nat := kCL_31 ++ kRL_32
def kRL_30 : List Nat := kCL_30 ++ kRL_31
def kRL_29 : List Nat := kCL_29 ++ kRL_30
def kRL_28 : List Nat := kCL_28 ++ kRL_29
def kRL_27 : List Nat := kCL_27 ++ kRL_28
def kRL_26 : List Nat := kCL_26 ++ kRL_27
def kRL_25 : List Nat := kCL_25 ++ kRL_26
def kRL_24 : List Nat := kCL_24 ++ kRL_25
def kRL_23 : List Nat := kCL_23 ++ kRL_24
def kRL_22 : List Nat := kCL_22 ++ kRL_23
def kRL_21 : List Nat := kCL_21 ++ kRL_22
def kRL_20 : List Nat := kCL_20 ++ kRL_21
def kRL_19 : List Nat := kCL_19 ++ kRL_20
def kRL_18 : List Nat := kCL_18 ++ kRL_19
def kRL_17 : List Nat := kCL_17 ++ kRL_18
def kRL_16 : List Nat := kCL_16 ++ kRL_17
def kRL_15 : List Nat := kCL_15 ++ kRL_16
def kRL_14 : List Nat := kCL_14 ++ kRL_15
def kRL_13 : List Nat := kCL_13 ++ kRL_14
def kRL_12 : List Nat := kCL_12 ++ kRL_13
def kRL_11 : List Nat := kCL_11 ++ kRL_12
def kRL_10 : List Nat := kCL_10 ++ kRL_11
def kRL_9 : List Nat := kCL_9 ++ kRL_10
def kRL_8 : List Nat := kCL_8 ++ kRL_9
def kRL_7 : List Nat := kCL_7 ++ kRL_8
def kRL_6 : List Nat := kCL_6 ++ kRL_7
def kRL_5 : List Nat := kCL_5 ++ kRL_6
def kRL_4 : List Nat := kCL_4 ++ kRL_5
def kRL_3 : List Nat := kCL_3 ++ kRL_4
def kRL_2 : List Nat := kCL_2 ++ kRL_3
def kRL_1 : List Nat := kCL_1 ++ kRL_2
def kRL_0 : List Nat := kCL_0 ++ kRL_1
theorem kEqC (n : Nat) {l r : List Nat} (h1 : l.take n = r.take n) (h2 : l.drop n = r.drop n) : l = r := by rw [← List.take_append_drop n l, h1, h2, List.take_append_drop]
theorem kRL_eq : cL_law.data.toList.map UInt8.toNat = kRL_0 := (kEqC 1000 (by decide +kernel) (kEqC 1000 (by decide +kernel) (kEqC 1000 (by decide +kernel) (kEqC 1000 (by decide +kernel) (by decide +kernel)))))
theorem katL_0 (i : Nat) : (cL_law.data.toList.map UInt8.toNat)[0 + i]? = kRL_0[i]? := by rw [kRL_eq, Nat.zero_add]
theorem katL_1 : ∀ i : Nat, (cL_law.data.toList.map UInt8.toNat)[32 + i]? = kRL_1[i]? := kstep katL_0 (C := kCL_0) rfl rfl
theorem katL_2 : ∀ i : Nat, (cL_law.data.toList.map UInt8.toNat)[64 + i]? = kRL_2[i]? := kstep katL_1 (C := kCL_1) rfl rfl
theorem katL_3 : ∀ i : Nat, (cL_law.data.toList.map UInt8.toNat)[96 + i]? = kRL_3[i]? := kstep katL_2 (C := kCL_2) rfl rfl
theorem katL_4 : ∀ i : Nat, (cL_law.data.toList.map UInt8.toNat)[128 + i]? = kRL_4[i]? := kstep katL_3 (C := kCL_3) rfl rfl
theorem katL_5 : ∀ i : Nat, (cL_law.data.toList.map UInt8.toNat)[160 + i]? = kRL_5[i]? := kstep katL_4 (C := kCL_4) rfl rfl
theorem katL_6 : ∀ i : Nat, (cL_law.data.toList.map UInt8.toNat)[192 + i]? = kRL_6[i]? := kstep katL_5 (C := kCL_5) rfl rfl
theorem katL_7 : ∀ i : Nat, (cL_law.data.toList.map UInt8.toNat)[224 + i]? = kRL_7[i]? := kstep katL_6 (C := kCL_6) rfl rfl
theorem katL_8 : ∀ i : Nat, (cL_law.data.toList.map UInt8.toNat)[256 + i]? = kRL_8[i]? := kstep katL_7 (C := kCL_7) rfl rfl
theorem katL_9 : ∀ i : Nat, (cL_law.data.toList.map UInt8.toNat)[288 + i]? = kRL_9[i]? := kstep katL_8 (C := kCL_8) rfl rfl
theorem katL_10 : ∀ i : Nat, (cL_law.data.toList.map UInt8.toNat)[320 + i]? = kRL_10[i]? := kstep katL_9 (C := kCL_9) rfl rfl
theorem katL_11 : ∀ i : Nat, (cL_law.data.toList.map UInt8.toNat)[352 + i]? = kRL_11[i]? := kstep katL_10 (C := kCL_10) rfl rfl
theorem katL_12 : ∀ i : Nat, (cL_law.data.toList.map UInt8.toNat)[384 + i]? = kRL_12[i]? := kstep katL_11 (C := kCL_11) rfl rfl
theorem katL_13 : ∀ i : Nat, (cL_law.data.toList.map UInt8.toNat)[416 + i]? = kRL_13[i]? := kstep katL_12 (C := kCL_12) rfl rfl
theorem katL_14 : ∀ i : Nat, (cL_law.data.toList.map UInt8.toNat)[448 + i]? = kRL_14[i]? := kstep katL_13 (C := kCL_13) rfl rfl
theorem katL_15 : ∀ i : Nat, (cL_law.data.toList.map UInt8.toNat)[480 + i]? = kRL_15[i]? := kstep katL_14 (C := kCL_14) rfl rfl
theorem katL_16 : ∀ i : Nat, (cL_law.data.toList.map UInt8.toNat)[512 + i]? = kRL_16[i]? := kstep katL_15 (C := kCL_15) rfl rfl
theorem katL_17 : ∀ i : Nat, (cL_law.data.toList.map UInt8.toNat)[544 + i]? = kRL_17[i]? := kstep katL_16 (C := kCL_16) rfl rfl
theorem katL_18 : ∀ i : Nat, (cL_law.data.toList.map UInt8.toNat)[576 + i]? = kRL_18[i]? := kstep katL_17 (C := kCL_17) rfl rfl
theorem katL_19 : ∀ i : Nat, (cL_law.data.toList.map UInt8.toNat)[608 + i]? = kRL_19[i]? := kstep katL_18 (C := kCL_18) rfl rfl
theorem katL_20 : ∀ i : Nat, (cL_law.data.toList.map UInt8.toNat)[640 + i]? = kRL_20[i]? := kstep katL_19 (C := kCL_19) rfl rfl
theorem katL_21 : ∀ i : Nat, (cL_law.data.toList.map UInt8.toNat)[672 + i]? = kRL_21[i]? := kstep katL_20 (C := kCL_20) rfl rfl
theorem katL_22 : ∀ i : Nat, (cL_law.data.toList.map UInt8.toNat)[704 + i]? = kRL_22[i]? := kstep katL_21 (C := kCL_21) rfl rfl
theorem katL_23 : ∀ i : Nat, (cL_law.data.toList.map UInt8.toNat)[736 + i]? = kRL_23[i]? := kstep katL_22 (C := kCL_22) rfl rfl
theorem katL_24 : ∀ i : Nat, (cL_law.data.toList.map UInt8.toNat)[768 + i]? = kRL_24[i]? := kstep katL_23 (C := kCL_23) rfl rfl
theorem katL_25 : ∀ i : Nat, (cL_law.data.toList.map UInt8.toNat)[800 + i]? = kRL_25[i]? := kstep katL_24 (C := kCL_24) rfl rfl
theorem katL_26 : ∀ i : Nat, (cL_law.data.toList.map UInt8.toNat)[832 + i]? = kRL_26[i]? := kstep katL_25 (C := kCL_25) rfl rfl
theorem katL_27 : ∀ i : Nat, (cL_law.data.toList.map UInt8.toNat)[864 + i]? = kRL_27[i]? := kstep katL_26 (C := kCL_26) rfl rfl
theorem katL_28 : ∀ i : Nat, (cL_law.data.toList.map UInt8.toNat)[896 + i]? = kRL_28[i]? := kstep katL_27 (C := kCL_27) rfl rfl
theorem katL_29 : ∀ i : Nat, (cL_law.data.toList.map UInt8.toNat)[928 + i]? = kRL_29[i]? := kstep katL_28 (C := kCL_28) rfl rfl
theorem katL_30 : ∀ i : Nat, (cL_law.data.toList.map UInt8.toNat)[960 + i]? = kRL_30[i]? := kstep katL_29 (C := kCL_29) rfl rfl
theorem katL_31 : ∀ i : Nat, (cL_law.data.toList.map UInt8.toNat)[992 + i]? = kRL_31[i]? := kstep katL_30 (C := kCL_30) rfl rfl
theorem katL_32 : ∀ i : Nat, (cL_law.data.toList.map UInt8.toNat)[1024 + i]? = kRL_32[i]? := kstep katL_31 (C := kCL_31) rfl rfl
theorem katL_33 : ∀ i : Nat, (cL_law.data.toList.map UInt8.toNat)[1056 + i]? = kRL_33[i]? := kstep katL_32 (C := kCL_32) rfl rfl
theorem katL_34 : ∀ i : Nat, (cL_law.data.toList.map UInt8.toNat)[1088 + i]? = kRL_34[i]? := kstep katL_33 (C := kCL_33) rfl rfl
theorem katL_35 : ∀ i : Nat, (cL_law.data.toList.map UInt8.toNat)[1120 + i]? = kRL_35[i]? := kstep katL_34 (C := kCL_34) rfl rfl
theorem katL_36 : ∀ i : Nat, (cL_law.data.toList.map UInt8.toNat)[1152 + i]? = kRL_36[i]? := kstep katL_35 (C := kCL_35) rfl rfl
theorem katL_37 : ∀ i : Nat, (cL_law.data.toList.map UInt8.toNat)[1184 + i]? = kRL_37[i]? := kstep katL_36 (C := kCL_36) rfl rfl
theorem katL_38 : ∀ i : Nat, (cL_law.data.toList.map UInt8.toNat)[1216 + i]? = kRL_38[i]? := kstep katL_37 (C := kCL_37) rfl rfl
theorem katL_39 : ∀ i : Nat, (cL_law.data.toList.map UInt8.toNat)[1248 + i]? = kRL_39[i]? := kstep katL_38 (C := kCL_38) rfl rfl
theorem katL_40 : ∀ i : Nat, (cL_law.data.toList.map UInt8.toNat)[1280 + i]? = kRL_40[i]? := kstep katL_39 (C := kCL_39) rfl rfl
theorem katL_41 : ∀ i : Nat, (cL_law.data.toList.map UInt8.toNat)[1312 + i]? = kRL_41[i]? := kstep katL_40 (C := kCL_40) rfl rfl
theorem katL_42 : ∀ i : Nat, (cL_law.data.toList.map UInt8.toNat)[1344 + i]? = kRL_42[i]? := kstep katL_41 (C := kCL_41) rfl rfl
theorem katL_43 : ∀ i : Nat, (cL_law.data.toList.map UInt8.toNat)[1376 + i]? = kRL_43[i]? := kstep katL_42 (C := kCL_42) rfl rfl
theorem katL_44 : ∀ i : Nat, (cL_law.data.toList.map UInt8.toNat)[1408 + i]? = kRL_44[i]? := kstep katL_43 (C := kCL_43) rfl rfl
theorem katL_45 : ∀ i : Nat, (cL_law.data.toList.map UInt8.toNat)[1440 + i]? = kRL_45[i]? := kstep katL_44 (C := kCL_44) rfl rfl
theorem katL_46 : ∀ i : Nat, (cL_law.data.toList.map UInt8.toNat)[1472 + i]? = kRL_46[i]? := kstep katL_45 (C := kCL_45) rfl rfl
theorem katL_47 : ∀ i : Nat, (cL_law.data.toList.map UInt8.toNat)[1504 + i]? = kRL_47[i]? := kstep katL_46 (C := kCL_46) rfl rfl
theorem katL_48 : ∀ i : Nat, (cL_law.data.toList.map UInt8.toNat)[1536 + i]? = kRL_48[i]? := kstep katL_47 (C := kCL_47) rfl rfl
theorem katL_49 : ∀ i : Nat, (cL_law.data.toList.map UInt8.toNat)[1568 + i]? = kRL_49[i]? := kstep katL_48 (C := kCL_48) rfl rfl
theorem katL_50 : ∀ i : Nat, (cL_law.data.toList.map UInt8.toNat)[1600 + i]? = kRL_50[i]? := kstep katL_49 (C := kCL_49) rfl rfl
theorem katL_51 : ∀ i : Nat, (cL_law.data.toList.map UInt8.toNat)[1632 + i]? = kRL_51[i]? := kstep katL_50 (C := kCL_50) rfl rfl
theorem katL_52 : ∀ i : Nat, (cL_law.data.toList.map UInt8.toNat)[1664 + i]? = kRL_52[i]? := kstep katL_51 (C := kCL_51) rfl rfl
theorem katL_53 : ∀ i : Nat, (cL_law.data.toList.map UInt8.toNat)[1696 + i]? = kRL_53[i]? := kstep katL_52 (C := kCL_52) rfl rfl
theorem katL_54 : ∀ i : Nat, (cL_law.data.toList.map UInt8.toNat)[1728 + i]? = kRL_54[i]? := kstep katL_53 (C := kCL_53) rfl rfl
theorem katL_55 : ∀ i : Nat, (cL_law.data.toList.map UInt8.toNat)[1760 + i]? = kRL_55[i]? := kstep katL_54 (C := kCL_54) rfl rfl
theorem katL_56 : ∀ i : Nat, (cL_law.data.toList.map UInt8.toNat)[1792 + i]? = kRL_56[i]? := kstep katL_55 (C := kCL_55) rfl rfl
theorem katL_57 : ∀ i : Nat, (cL_law.data.toList.map UInt8.toNat)[1824 + i]? = kRL_57[i]? := kstep katL_56 (C := kCL_56) rfl rfl
theorem katL_58 : ∀ i : Nat, (cL_law.data.toList.map UInt8.toNat)[1856 + i]? = kRL_58[i]? := kstep katL_57 (C := kCL_57) rfl rfl
theorem katL_59 : ∀ i : Nat, (cL_law.data.toList.map UInt8.toNat)[1888 + i]? = kRL_59[i]? := kstep katL_58 (C := kCL_58) rfl rfl
theorem katL_60 : ∀ i : Nat, (cL_law.data.toList.map UInt8.toNat)[1920 + i]? = kRL_60[i]? := kstep katL_59 (C := kCL_59) rfl rfl
theorem katL_61 : ∀ i : Nat, (cL_law.data.toList.map UInt8.toNat)[1952 + i]? = kRL_61[i]? := kstep katL_60 (C := kCL_60) rfl rfl
theorem katL_62 : ∀ i : Nat, (cL_law.data.toList.map UInt8.toNat)[1984 + i]? = kRL_62[i]? := kstep katL_61 (C := kCL_61) rfl rfl
theorem katL_63 : ∀ i : Nat, (cL_law.data.toList.map UInt8.toNat)[2016 + i]? = kRL_63[i]? := kstep katL_62 (C := kCL_62) rfl rfl
theorem katL_64 : ∀ i : Nat, (cL_law.data.toList.map UInt8.toNat)[2048 + i]? = kRL_64[i]? := kstep katL_63 (C := kCL_63) rfl rfl
theorem katL_65 : ∀ i : Nat, (cL_law.data.toList.map UInt8.toNat)[2080 + i]? = kRL_65[i]? := kstep katL_64 (C := kCL_64) rfl rfl
theorem katL_66 : ∀ i : Nat, (cL_law.data.toList.map UInt8.toNat)[2112 + i]? = kRL_66[i]? := kstep katL_65 (C := kCL_65) rfl rfl
theorem katL_67 : ∀ i : Nat, (cL_law.data.toList.map UInt8.toNat)[2144 + i]? = kRL_67[i]? := kstep katL_66 (C := kCL_66) rfl rfl
theorem katL_68 : ∀ i : Nat, (cL_law.data.toList.map UInt8.toNat)[2176 + i]? = kRL_68[i]? := kstep katL_67 (C := kCL_67) rfl rfl
theorem katL_69 : ∀ i : Nat, (cL_law.data.toList.map UInt8.toNat)[2208 + i]? = kRL_69[i]? := kstep katL_68 (C := kCL_68) rfl rfl
theorem katL_70 : ∀ i : Nat, (cL_law.data.toList.map UInt8.toNat)[2240 + i]? = kRL_70[i]? := kstep katL_69 (C := kCL_69) rfl rfl
theorem katL_71 : ∀ i : Nat, (cL_law.data.toList.map UInt8.toNat)[2272 + i]? = kRL_71[i]? := kstep katL_70 (C := kCL_70) rfl rfl
theorem katL_72 : ∀ i : Nat, (cL_law.data.toList.map UInt8.toNat)[2304 + i]? = kRL_72[i]? := kstep katL_71 (C := kCL_71) rfl rfl
theorem katL_73 : ∀ i : Nat, (cL_law.data.toList.map UInt8.toNat)[2336 + i]? = kRL_73[i]? := kstep katL_72 (C := kCL_72) rfl rfl
theorem katL_74 : ∀ i : Nat, (cL_law.data.toList.map UInt8.toNat)[2368 + i]? = kRL_74[i]? := kstep katL_73 (C := kCL_73) rfl rfl
theorem katL_75 : ∀ i : Nat, (cL_law.data.toList.map UInt8.toNat)[2400 + i]? = kRL_75[i]? := kstep katL_74 (C := kCL_74) rfl rfl
theorem katL_76 : ∀ i : Nat, (cL_law.data.toList.map UInt8.toNat)[2432 + i]? = kRL_76[i]? := kstep katL_75 (C := kCL_75) rfl rfl
theorem katL_77 : ∀ i : Nat, (cL_law.data.toList.map UInt8.toNat)[2464 + i]? = kRL_77[i]? := kstep katL_76 (C := kCL_76) rfl rfl
theorem katL_78 : ∀ i : Nat, (cL_law.data.toList.map UInt8.toNat)[2496 + i]? = kRL_78[i]? := kstep katL_77 (C := kCL_77) rfl rfl
theorem katL_79 : ∀ i : Nat, (cL_law.data.toList.map UInt8.toNat)[2528 + i]? = kRL_79[i]? := kstep katL_78 (C := kCL_78) rfl rfl
theorem katL_80 : ∀ i : Nat, (cL_law.data.toList.map UInt8.toNat)[2560 + i]? = kRL_80[i]? := kstep katL_79 (C := kCL_79) rfl rfl
theorem katL_81 : ∀ i : Nat, (cL_law.data.toList.map UInt8.toNat)[2592 + i]? = kRL_81[i]? := kstep katL_80 (C := kCL_80) rfl rfl
theorem katL_82 : ∀ i : Nat, (cL_law.data.toList.map UInt8.toNat)[2624 + i]? = kRL_82[i]? := kstep katL_81 (C := kCL_81) rfl rfl
theorem katL_83 : ∀ i : Nat, (cL_law.data.toList.map UInt8.toNat)[2656 + i]? = kRL_83[i]? := kstep katL_82 (C := kCL_82) rfl rfl
theorem katL_84 : ∀ i : Nat, (cL_law.data.toList.map UInt8.toNat)[2688 + i]? = kRL_84[i]? := kstep katL_83 (C := kCL_83) rfl rfl
theorem katL_85 : ∀ i : Nat, (cL_law.data.toList.map UInt8.toNat)[2720 + i]? = kRL_85[i]? := kstep katL_84 (C := kCL_84) rfl rfl
theorem katL_86 : ∀ i : Nat, (cL_law.data.toList.map UInt8.toNat)[2752 + i]? = kRL_86[i]? := kstep katL_85 (C := kCL_85) rfl rfl
theorem katL_87 : ∀ i : Nat, (cL_law.data.toList.map UInt8.toNat)[2784 + i]? = kRL_87[i]? := kstep katL_86 (C := kCL_86) rfl rfl
theorem katL_88 : ∀ i : Nat, (cL_law.data.toList.map UInt8.toNat)[2816 + i]? = kRL_88[i]? := kstep katL_87 (C := kCL_87) rfl rfl
theorem katL_89 : ∀ i : Nat, (cL_law.data.toList.map UInt8.toNat)[2848 + i]? = kRL_89[i]? := kstep katL_88 (C := kCL_88) rfl rfl
theorem katL_90 : ∀ i : Nat, (cL_law.data.toList.map UInt8.toNat)[2880 + i]? = kRL_90[i]? := kstep katL_89 (C := kCL_89) rfl rfl
theorem katL_91 : ∀ i : Nat, (cL_law.data.toList.map UInt8.toNat)[2912 + i]? = kRL_91[i]? := kstep katL_90 (C := kCL_90) rfl rfl
theorem katL_92 : ∀ i : Nat, (cL_law.data.toList.map UInt8.toNat)[2944 + i]? = kRL_92[i]? := kstep katL_91 (C := kCL_91) rfl rfl
theorem katL_93 : ∀ i : Nat, (cL_law.data.toList.map UInt8.toNat)[2976 + i]? = kRL_93[i]? := kstep katL_92 (C := kCL_92) rfl rfl
theorem katL_94 : ∀ i : Nat, (cL_law.data.toList.map UInt8.toNat)[3008 + i]? = kRL_94[i]? := kstep katL_93 (C := kCL_93) rfl rfl
theorem katL_95 : ∀ i : Nat, (cL_law.data.toList.map UInt8.toNat)[3040 + i]? = kRL_95[i]? := kstep katL_94 (C := kCL_94) rfl rfl
theorem katL_96 : ∀ i : Nat, (cL_law.data.toList.map UInt8.toNat)[3072 + i]? = kRL_96[i]? := kstep katL_95 (C := kCL_95) rfl rfl
theorem katL_97 : ∀ i : Nat, (cL_law.data.toList.map UInt8.toNat)[3104 + i]? = kRL_97[i]? := kstep katL_96 (C := kCL_96) rfl rfl
theorem katL_98 : ∀ i : Nat, (cL_law.data.toList.map UInt8.toNat)[3136 + i]? = kRL_98[i]? := kstep katL_97 (C := kCL_97) rfl rfl
theorem katL_99 : ∀ i : Nat, (cL_law.data.toList.map UInt8.toNat)[3168 + i]? = kRL_99[i]? := kstep katL_98 (C := kCL_98) rfl rfl
theorem katL_100 : ∀ i : Nat, (cL_law.data.toList.map UInt8.toNat)[3200 + i]? = kRL_100[i]? := kstep katL_99 (C := kCL_99) rfl rfl
theorem katL_101 : ∀ i : Nat, (cL_law.data.toList.map UInt8.toNat)[3232 + i]? = kRL_101[i]? := kstep katL_100 (C := kCL_100) rfl rfl
theorem katL_102 : ∀ i : Nat, (cL_law.data.toList.map UInt8.toNat)[3264 + i]? = kRL_102[i]? := kstep katL_101 (C := kCL_101) rfl rfl
theorem katL_103 : ∀ i : Nat, (cL_law.data.toList.map UInt8.toNat)[3296 + i]? = kRL_103[i]? := kstep katL_102 (C := kCL_102) rfl rfl
theorem katL_104 : ∀ i : Nat, (cL_law.data.toList.map UInt8.toNat)[3328 + i]? = kRL_104[i]? := kstep katL_103 (C := kCL_103) rfl rfl
theorem katL_105 : ∀ i : Nat, (cL_law.data.toList.map UInt8.toNat)[3360 + i]? = kRL_105[i]? := kstep katL_104 (C := kCL_104) rfl rfl
theorem katL_106 : ∀ i : Nat, (cL_law.data.toList.map UInt8.toNat)[3392 + i]? = kRL_106[i]? := kstep katL_105 (C := kCL_105) rfl rfl
theorem katL_107 : ∀ i : Nat, (cL_law.data.toList.map UInt8.toNat)[3424 + i]? = kRL_107[i]? := kstep katL_106 (C := kCL_106) rfl rfl
theorem katL_108 : ∀ i : Nat, (cL_law.data.toList.map UInt8.toNat)[3456 + i]? = kRL_108[i]? := kstep katL_107 (C := kCL_107) rfl rfl
theorem katL_109 : ∀ i : Nat, (cL_law.data.toList.map UInt8.toNat)[3488 + i]? = kRL_109[i]? := kstep katL_108 (C := kCL_108) rfl rfl
theorem katL_110 : ∀ i : Nat, (cL_law.data.toList.map UInt8.toNat)[3520 + i]? = kRL_110[i]? := kstep katL_109 (C := kCL_109) rfl rfl
theorem katL_111 : ∀ i : Nat, (cL_law.data.toList.map UInt8.toNat)[3552 + i]? = kRL_111[i]? := kstep katL_110 (C := kCL_110) rfl rfl
theorem katL_112 : ∀ i : Nat, (cL_law.data.toList.map UInt8.toNat)[3584 + i]? = kRL_112[i]? := kstep katL_111 (C := kCL_111) rfl rfl
theorem katL_113 : ∀ i : Nat, (cL_law.data.toList.map UInt8.toNat)[3616 + i]? = kRL_113[i]? := kstep katL_112 (C := kCL_112) rfl rfl
theorem katL_114 : ∀ i : Nat, (cL_law.data.toList.map UInt8.toNat)[3648 + i]? = kRL_114[i]? := kstep katL_113 (C := kCL_113) rfl rfl
theorem katL_115 : ∀ i : Nat, (cL_law.data.toList.map UInt8.toNat)[3680 + i]? = kRL_115[i]? := kstep katL_114 (C := kCL_114) rfl rfl
theorem katL_116 : ∀ i : Nat, (cL_law.data.toList.map UInt8.toNat)[3712 + i]? = kRL_116[i]? := kstep katL_115 (C := kCL_115) rfl rfl
theorem katL_117 : ∀ i : Nat, (cL_law.data.toList.map UInt8.toNat)[3744 + i]? = kRL_117[i]? := kstep katL_116 (C := kCL_116) rfl rfl
theorem katL_118 : ∀ i : Nat, (cL_law.data.toList.map UInt8.toNat)[3776 + i]? = kRL_118[i]? := kstep katL_117 (C := kCL_117) rfl rfl
theorem katL_119 : ∀ i : Nat, (cL_law.data.toList.map UInt8.toNat)[3808 + i]? = kRL_119[i]? := kstep katL_118 (C := kCL_118) rfl rfl
theorem katL_120 : ∀ i : Nat, (cL_law.data.toList.map UInt8.toNat)[3840 + i]? = kRL_120[i]? := kstep katL_119 (C := kCL_119) rfl rfl
theorem katL_121 : ∀ i : Nat, (cL_law.data.toList.map UInt8.toNat)[3872 + i]? = kRL_121[i]? := kstep katL_120 (C := kCL_120) rfl rfl
theorem katL_122 : ∀ i : Nat, (cL_law.data.toList.map UInt8.toNat)[3904 + i]? = kRL_122[i]? := kstep katL_121 (C := kCL_121) rfl rfl
theorem katL_123 : ∀ i : Nat, (cL_law.data.toList.map UInt8.toNat)[3936 + i]? = kRL_123[i]? := kstep katL_122 (C := kCL_122) rfl rfl
theorem katL_124 : ∀ i : Nat, (cL_law.data.toList.map UInt8.toNat)[3968 + i]? = kRL_124[i]? := kstep katL_123 (C := kCL_123) rfl rfl
theorem katL_125 : ∀ i : Nat, (cL_law.data.toList.map UInt8.toNat)[4000 + i]? = kRL_125[i]? := kstep katL_124 (C := kCL_124) rfl rfl
theorem katL_126 : ∀ i : Nat, (cL_law.data.toList.map UInt8.toNat)[4032 + i]? = kRL_126[i]? := kstep katL_125 (C := kCL_125) rfl rfl
theorem katL_127 : ∀ i : Nat, (cL_law.data.toList.map UInt8.toNat)[4064 + i]? = kRL_127[i]? := kstep katL_126 (C := kCL_126) rfl rfl
theorem katL_128 : ∀ i : Nat, (cL_law.data.toList.map UInt8.toNat)[4096 + i]? = kRL_128[i]? := kstep katL_127 (C := kCL_127) rfl rfl
theorem katL_129 : ∀ i : Nat, (cL_law.data.toList.map UInt8.toNat)[4128 + i]? = kRL_129[i]? := kstep katL_128 (C := kCL_128) rfl rfl
theorem katL_130 : ∀ i : Nat, (cL_law.data.toList.map UInt8.toNat)[4160 + i]? = kRL_130[i]? := kstep katL_129 (C := kCL_129) rfl rfl
theorem katL_131 : ∀ i : Nat, (cL_law.data.toList.map UInt8.toNat)[4192 + i]? = kRL_131[i]? := kstep katL_130 (C := kCL_130) rfl rfl
theorem katL_132 : ∀ i : Nat, (cL_law.data.toList.map UInt8.toNat)[4224 + i]? = kRL_132[i]? := kstep katL_131 (C := kCL_131) rfl rfl
theorem katL_133 : ∀ i : Nat, (cL_law.data.toList.map UInt8.toNat)[4256 + i]? = kRL_133[i]? := kstep katL_132 (C := kCL_132) rfl rfl
theorem katL_134 : ∀ i : Nat, (cL_law.data.toList.map UInt8.toNat)[4288 + i]? = kRL_134[i]? := kstep katL_133 (C := kCL_133) rfl rfl
theorem katL_135 : ∀ i : Nat, (cL_law.data.toList.map UInt8.toNat)[4320 + i]? = kRL_135[i]? := kstep katL_134 (C := kCL_134) rfl rfl
theorem katL_136 : ∀ i : Nat, (cL_law.data.toList.map UInt8.toNat)[4352 + i]? = kRL_136[i]? := kstep katL_135 (C := kCL_135) rfl rfl
theorem katL_137 : ∀ i : Nat, (cL_law.data.toList.map UInt8.toNat)[4384 + i]? = kRL_137[i]? := kstep katL_136 (C := kCL_136) rfl rfl
theorem katL_138 : ∀ i : Nat, (cL_law.data.toList.map UInt8.toNat)[4416 + i]? = kRL_138[i]? := kstep katL_137 (C := kCL_137) rfl rfl
theorem katL_139 : ∀ i : Nat, (cL_law.data.toList.map UInt8.toNat)[4448 + i]? = kRL_139[i]? := kstep katL_138 (C := kCL_138) rfl rfl
theorem katL_140 : ∀ i : Nat, (cL_law.data.toList.map UInt8.toNat)[4480 + i]? = kRL_140[i]? := kstep katL_139 (C := kCL_139) rfl rfl
theorem kBL_0 {b : Nat} (p : Nat) (hp : Nat.ble 0 p = true) (h : kCL_0[p - 0]? = some b) : kb cL_law p b := kin katL_0 rfl hp h
theorem kBL_1 {b : Nat} (p : Nat) (hp : Nat.ble 32 p = true) (h : kCL_1[p - 32]? = some b) : kb cL_law p b := kin katL_1 rfl hp h
theorem kBL_2 {b : Nat} (p : Nat) (hp : Nat.ble 64 p = true) (h : kCL_2[p - 64]? = some b) : kb cL_law p b := kin katL_2 rfl hp h
theorem kBL_3 {b : Nat} (p : Nat) (hp : Nat.ble 96 p = true) (h : kCL_3[p - 96]? = some b) : kb cL_law p b := kin katL_3 rfl hp h
theorem kBL_4 {b : Nat} (p : Nat) (hp : Nat.ble 128 p = true) (h : kCL_4[p - 128]? = some b) : kb cL_law p b := kin katL_4 rfl hp h
theorem kBL_5 {b : Nat} (p : Nat) (hp : Nat.ble 160 p = true) (h : kCL_5[p - 160]? = some b) : kb cL_law p b := kin katL_5 rfl hp h
theorem kBL_6 {b : Nat} (p : Nat) (hp : Nat.ble 192 p = true) (h : kCL_6[p - 192]? = some b) : kb cL_law p b := kin katL_6 rfl hp h
theorem kBL_7 {b : Nat} (p : Nat) (hp : Nat.ble 224 p = true) (h : kCL_7[p - 224]? = some b) : kb cL_law p b := kin katL_7 rfl hp h
theorem kBL_8 {b : Nat} (p : Nat) (hp : Nat.ble 256 p = true) (h : kCL_8[p - 256]? = some b) : kb cL_law p b := kin katL_8 rfl hp h
theorem kBL_9 {b : Nat} (p : Nat) (hp : Nat.ble 288 p = true) (h : kCL_9[p - 288]? = some b) : kb cL_law p b := kin katL_9 rfl hp h
theorem kBL_10 {b : Nat} (p : Nat) (hp : Nat.ble 320 p = true) (h : kCL_10[p - 320]? = some b) : kb cL_law p b := kin katL_10 rfl hp h
theorem kBL_11 {b : Nat} (p : Nat) (hp : Nat.ble 352 p = true) (h : kCL_11[p - 352]? = some b) : kb cL_law p b := kin katL_11 rfl hp h
theorem kBL_12 {b : Nat} (p : Nat) (hp : Nat.ble 384 p = true) (h : kCL_12[p - 384]? = some b) : kb cL_law p b := kin katL_12 rfl hp h
theorem kBL_13 {b : Nat} (p : Nat) (hp : Nat.ble 416 p = true) (h : kCL_13[p - 416]? = some b) : kb cL_law p b := kin katL_13 rfl hp h
theorem kBL_14 {b : Nat} (p : Nat) (hp : Nat.ble 448 p = true) (h : kCL_14[p - 448]? = some b) : kb cL_law p b := kin katL_14 rfl hp h
theorem kBL_15 {b : Nat} (p : Nat) (hp : Nat.ble 480 p = true) (h : kCL_15[p - 480]? = some b) : kb cL_law p b := kin katL_15 rfl hp h
theorem kBL_16 {b : Nat} (p : Nat) (hp : Nat.ble 512 p = true) (h : kCL_16[p - 512]? = some b) : kb cL_law p b := kin katL_16 rfl hp h
theorem kBL_17 {b : Nat} (p : Nat) (hp : Nat.ble 544 p = true) (h : kCL_17[p - 544]? = some b) : kb cL_law p b := kin katL_17 rfl hp h
theorem kBL_18 {b : Nat} (p : Nat) (hp : Nat.ble 576 p = true) (h : kCL_18[p - 576]? = some b) : kb cL_law p b := kin katL_18 rfl hp h
theorem kBL_19 {b : Nat} (p : Nat) (hp : Nat.ble 608 p = true) (h : kCL_19[p - 608]? = some b) : kb cL_law p b := kin katL_19 rfl hp h
theorem kBL_20 {b : Nat} (p : Nat) (hp : Nat.ble 640 p = true) (h : kCL_20[p - 640]? = some b) : kb cL_law p b := kin katL_20 rfl hp h
theorem kBL_21 {b : Nat} (p : Nat) (hp : Nat.ble 672 p = true) (h : kCL_21[p - 672]? = some b) : kb cL_law p b := kin katL_21 rfl hp h
theorem kBL_22 {b : Nat} (p : Nat) (hp : Nat.ble 704 p = true) (h : kCL_22[p - 704]? = some b) : kb cL_law p b := kin katL_22 rfl hp h
theorem kBL_23 {b : Nat} (p : Nat) (hp : Nat.ble 736 p = true) (h : kCL_23[p - 736]? = some b) : kb cL_law p b := kin katL_23 rfl hp h
theorem kBL_24 {b : Nat} (p : Nat) (hp : Nat.ble 768 p = true) (h : kCL_24[p - 768]? = some b) : kb cL_law p b := kin katL_24 rfl hp h
theorem kBL_25 {b : Nat} (p : Nat) (hp : Nat.ble 800 p = true) (h : kCL_25[p - 800]? = some b) : kb cL_law p b := kin katL_25 rfl hp h
theorem kBL_26 {b : Nat} (p : Nat) (hp : Nat.ble 832 p = true) (h : kCL_26[p - 832]? = some b) : kb cL_law p b := kin katL_26 rfl hp h
theorem kBL_27 {b : Nat} (p : Nat) (hp : Nat.ble 864 p = true) (h : kCL_27[p - 864]? = some b) : kb cL_law p b := kin katL_27 rfl hp h
theorem kBL_28 {b : Nat} (p : Nat) (hp : Nat.ble 896 p = true) (h : kCL_28[p - 896]? = some b) : kb cL_law p b := kin katL_28 rfl hp h
theorem kBL_29 {b : Nat} (p : Nat) (hp : Nat.ble 928 p = true) (h : kCL_29[p - 928]? = some b) : kb cL_law p b := kin katL_29 rfl hp h
theorem kBL_30 {b : Nat} (p : Nat) (hp : Nat.ble 960 p = true) (h : kCL_30[p - 960]? = some b) : kb cL_law p b := kin katL_30 rfl hp h
theorem kBL_31 {b : Nat} (p : Nat) (hp : Nat.ble 992 p = true) (h : kCL_31[p - 992]? = some b) : kb cL_law p b := kin katL_31 rfl hp h
theorem kBL_32 {b : Nat} (p : Nat) (hp : Nat.ble 1024 p = true) (h : kCL_32[p - 1024]? = some b) : kb cL_law p b := kin katL_32 rfl hp h
theorem kBL_33 {b : Nat} (p : Nat) (hp : Nat.ble 1056 p = true) (h : kCL_33[p - 1056]? = some b) : kb cL_law p b := kin katL_33 rfl hp h
theorem kBL_34 {b : Nat} (p : Nat) (hp : Nat.ble 1088 p = true) (h : kCL_34[p - 1088]? = some b) : kb cL_law p b := kin katL_34 rfl hp h
theorem kBL_35 {b : Nat} (p : Nat) (hp : Nat.ble 1120 p = true) (h : kCL_35[p - 1120]? = some b) : kb cL_law p b := kin katL_35 rfl hp h
theorem kBL_36 {b : Nat} (p : Nat) (hp : Nat.ble 1152 p = true) (h : kCL_36[p - 1152]? = some b) : kb cL_law p b := kin katL_36 rfl hp h
theorem kBL_37 {b : Nat} (p : Nat) (hp : Nat.ble 1184 p = true) (h : kCL_37[p - 1184]? = some b) : kb cL_law p b := kin katL_37 rfl hp h
theorem kBL_38 {b : Nat} (p : Nat) (hp : Nat.ble 1216 p = true) (h : kCL_38[p - 1216]? = some b) : kb cL_law p b := kin katL_38 rfl hp h
theorem kBL_39 {b : Nat} (p : Nat) (hp : Nat.ble 1248 p = true) (h : kCL_39[p - 1248]? = some b) : kb cL_law p b := kin katL_39 rfl hp h
theorem kBL_40 {b : Nat} (p : Nat) (hp : Nat.ble 1280 p = true) (h : kCL_40[p - 1280]? = some b) : kb cL_law p b := kin katL_40 rfl hp h
theorem kBL_41 {b : Nat} (p : Nat) (hp : Nat.ble 1312 p = true) (h : kCL_41[p - 1312]? = some b) : kb cL_law p b := kin katL_41 rfl hp h
theorem kBL_42 {b : Nat} (p : Nat) (hp : Nat.ble 1344 p = true) (h : kCL_42[p - 1344]? = some b) : kb cL_law p b := kin katL_42 rfl hp h
theorem kBL_43 {b : Nat} (p : Nat) (hp : Nat.ble 1376 p = true) (h : kCL_43[p - 1376]? = some b) : kb cL_law p b := kin katL_43 rfl hp h
theorem kBL_44 {b : Nat} (p : Nat) (hp : Nat.ble 1408 p = true) (h : kCL_44[p - 1408]? = some b) : kb cL_law p b := kin katL_44 rfl hp h
theorem kBL_45 {b : Nat} (p : Nat) (hp : Nat.ble 1440 p = true) (h : kCL_45[p - 1440]? = some b) : kb cL_law p b := kin katL_45 rfl hp h
theorem kBL_46 {b : Nat} (p : Nat) (hp : Nat.ble 1472 p = true) (h : kCL_46[p - 1472]? = some b) : kb cL_law p b := kin katL_46 rfl hp h
theorem kBL_47 {b : Nat} (p : Nat) (hp : Nat.ble 1504 p = true) (h : kCL_47[p - 1504]? = some b) : kb cL_law p b := kin katL_47 rfl hp h
theorem kBL_48 {b : Nat} (p : Nat) (hp : Nat.ble 1536 p = true) (h : kCL_48[p - 1536]? = some b) : kb cL_law p b := kin katL_48 rfl hp h
theorem kBL_49 {b : Nat} (p : Nat) (hp : Nat.ble 1568 p = true) (h : kCL_49[p - 1568]? = some b) : kb cL_law p b := kin katL_49 rfl hp h
theorem kBL_50 {b : Nat} (p : Nat) (hp : Nat.ble 1600 p = true) (h : kCL_50[p - 1600]? = some b) : kb cL_law p b := kin katL_50 rfl hp h
theorem kBL_51 {b : Nat} (p : Nat) (hp : Nat.ble 1632 p = true) (h : kCL_51[p - 1632]? = some b) : kb cL_law p b := kin katL_51 rfl hp h
theorem kBL_52 {b : Nat} (p : Nat) (hp : Nat.ble 1664 p = true) (h : kCL_52[p - 1664]? = some b) : kb cL_law p b := kin katL_52 rfl hp h
theorem kBL_53 {b : Nat} (p : Nat) (hp : Nat.ble 1696 p = true) (h : kCL_53[p - 1696]? = some b) : kb cL_law p b := kin katL_53 rfl hp h
theorem kBL_54 {b : Nat} (p : Nat) (hp : Nat.ble 1728 p = true) (h : kCL_54[p - 1728]? = some b) : kb cL_law p b := kin katL_54 rfl hp h
theorem kBL_55 {b : Nat} (p : Nat) (hp : Nat.ble 1760 p = true) (h : kCL_55[p - 1760]? = some b) : kb cL_law p b := kin katL_55 rfl hp h
theorem kBL_56 {b : Nat} (p : Nat) (hp : Nat.ble 1792 p = true) (h : kCL_56[p - 1792]? = some b) : kb cL_law p b := kin katL_56 rfl hp h
theorem kBL_57 {b : Nat} (p : Nat) (hp : Nat.ble 1824 p = true) (h : kCL_57[p - 1824]? = some b) : kb cL_law p b := kin katL_57 rfl hp h
theorem kBL_58 {b : Nat} (p : Nat) (hp : Nat.ble 1856 p = true) (h : kCL_58[p - 1856]? = some b) : kb cL_law p b := kin katL_58 rfl hp h
theorem kBL_59 {b : Nat} (p : Nat) (hp : Nat.ble 1888 p = true) (h : kCL_59[p - 1888]? = some b) : kb cL_law p b := kin katL_59 rfl hp h
theorem kBL_60 {b : Nat} (p : Nat) (hp : Nat.ble 1920 p = true) (h : kCL_60[p - 1920]? = some b) : kb cL_law p b := kin katL_60 rfl hp h
theorem kBL_61 {b : Nat} (p : Nat) (hp : Nat.ble 1952 p = true) (h : kCL_61[p - 1952]? = some b) : kb cL_law p b := kin katL_61 rfl hp h
theorem kBL_62 {b : Nat} (p : Nat) (hp : Nat.ble 1984 p = true) (h : kCL_62[p - 1984]? = some b) : kb cL_law p b := kin katL_62 rfl hp h
theorem kBL_63 {b : Nat} (p : Nat) (hp : Nat.ble 2016 p = true) (h : kCL_63[p - 2016]? = some b) : kb cL_law p b := kin katL_63 rfl hp h
theorem kBL_64 {b : Nat} (p : Nat) (hp : Nat.ble 2048 p = true) (h : kCL_64[p - 2048]? = some b) : kb cL_law p b := kin katL_64 rfl hp h
theorem kBL_65 {b : Nat} (p : Nat) (hp : Nat.ble 2080 p = true) (h : kCL_65[p - 2080]? = some b) : kb cL_law p b := kin katL_65 rfl hp h
theorem kBL_66 {b : Nat} (p : Nat) (hp : Nat.ble 2112 p = true) (h : kCL_66[p - 2112]? = some b) : kb cL_law p b := kin katL_66 rfl hp h
theorem kBL_67 {b : Nat} (p : Nat) (hp : Nat.ble 2144 p = true) (h : kCL_67[p - 2144]? = some b) : kb cL_law p b := kin katL_67 rfl hp h
theorem kBL_68 {b : Nat} (p : Nat) (hp : Nat.ble 2176 p = true) (h : kCL_68[p - 2176]? = some b) : kb cL_law p b := kin katL_68 rfl hp h
theorem kBL_69 {b : Nat} (p : Nat) (hp : Nat.ble 2208 p = true) (h : kCL_69[p - 2208]? = some b) : kb cL_law p b := kin katL_69 rfl hp h
theorem kBL_70 {b : Nat} (p : Nat) (hp : Nat.ble 2240 p = true) (h : kCL_70[p - 2240]? = some b) : kb cL_law p b := kin katL_70 rfl hp h
theorem kBL_71 {b : Nat} (p : Nat) (hp : Nat.ble 2272 p = true) (h : kCL_71[p - 2272]? = some b) : kb cL_law p b := kin katL_71 rfl hp h
theorem kBL_72 {b : Nat} (p : Nat) (hp : Nat.ble 2304 p = true) (h : kCL_72[p - 2304]? = some b) : kb cL_law p b := kin katL_72 rfl hp h
theorem kBL_73 {b : Nat} (p : Nat) (hp : Nat.ble 2336 p = true) (h : kCL_73[p - 2336]? = some b) : kb cL_law p b := kin katL_73 rfl hp h
theorem kBL_74 {b : Nat} (p : Nat) (hp : Nat.ble 2368 p = true) (h : kCL_74[p - 2368]? = some b) : kb cL_law p b := kin katL_74 rfl hp h
theorem kBL_75 {b : Nat} (p : Nat) (hp : Nat.ble 2400 p = true) (h : kCL_75[p - 2400]? = some b) : kb cL_law p b := kin katL_75 rfl hp h
theorem kBL_76 {b : Nat} (p : Nat) (hp : Nat.ble 2432 p = true) (h : kCL_76[p - 2432]? = some b) : kb cL_law p b := kin katL_76 rfl hp h
theorem kBL_77 {b : Nat} (p : Nat) (hp : Nat.ble 2464 p = true) (h : kCL_77[p - 2464]? = some b) : kb cL_law p b := kin katL_77 rfl hp h
theorem kBL_78 {b : Nat} (p : Nat) (hp : Nat.ble 2496 p = true) (h : kCL_78[p - 2496]? = some b) : kb cL_law p b := kin katL_78 rfl hp h
theorem kBL_79 {b : Nat} (p : Nat) (hp : Nat.ble 2528 p = true) (h : kCL_79[p - 2528]? = some b) : kb cL_law p b := kin katL_79 rfl hp h
theorem kBL_80 {b : Nat} (p : Nat) (hp : Nat.ble 2560 p = true) (h : kCL_80[p - 2560]? = some b) : kb cL_law p b := kin katL_80 rfl hp h
theorem kBL_81 {b : Nat} (p : Nat) (hp : Nat.ble 2592 p = true) (h : kCL_81[p - 2592]? = some b) : kb cL_law p b := kin katL_81 rfl hp h
theorem kBL_82 {b : Nat} (p : Nat) (hp : Nat.ble 2624 p = true) (h : kCL_82[p - 2624]? = some b) : kb cL_law p b := kin katL_82 rfl hp h
theorem kBL_83 {b : Nat} (p : Nat) (hp : Nat.ble 2656 p = true) (h : kCL_83[p - 2656]? = some b) : kb cL_law p b := kin katL_83 rfl hp h
theorem kBL_84 {b : Nat} (p : Nat) (hp : Nat.ble 2688 p = true) (h : kCL_84[p - 2688]? = some b) : kb cL_law p b := kin katL_84 rfl hp h
theorem kBL_85 {b : Nat} (p : Nat) (hp : Nat.ble 2720 p = true) (h : kCL_85[p - 2720]? = some b) : kb cL_law p b := kin katL_85 rfl hp h
theorem kBL_86 {b : Nat} (p : Nat) (hp : Nat.ble 2752 p = true) (h : kCL_86[p - 2752]? = some b) : kb cL_law p b := kin katL_86 rfl hp h
theorem kBL_87 {b : Nat} (p : Nat) (hp : Nat.ble 2784 p = true) (h : kCL_87[p - 2784]? = some b) : kb cL_law p b := kin katL_87 rfl hp h
theorem kBL_88 {b : Nat} (p : Nat) (hp : Nat.ble 2816 p = true) (h : kCL_88[p - 2816]? = some b) : kb cL_law p b := kin katL_88 rfl hp h
theorem kBL_89 {b : Nat} (p : Nat) (hp : Nat.ble 2848 p = true) (h : kCL_89[p - 2848]? = some b) : kb cL_law p b := kin katL_89 rfl hp h
theorem kBL_90 {b : Nat} (p : Nat) (hp : Nat.ble 2880 p = true) (h : kCL_90[p - 2880]? = some b) : kb cL_law p b := kin katL_90 rfl hp h
theorem kBL_91 {b : Nat} (p : Nat) (hp : Nat.ble 2912 p = true) (h : kCL_91[p - 2912]? = some b) : kb cL_law p b := kin katL_91 rfl hp h
theorem kBL_92 {b : Nat} (p : Nat) (hp : Nat.ble 2944 p = true) (h : kCL_92[p - 2944]? = some b) : kb cL_law p b := kin katL_92 rfl hp h
theorem kBL_93 {b : Nat} (p : Nat) (hp : Nat.ble 2976 p = true) (h : kCL_93[p - 2976]? = some b) : kb cL_law p b := kin katL_93 rfl hp h
theorem kBL_94 {b : Nat} (p : Nat) (hp : Nat.ble 3008 p = true) (h : kCL_94[p - 3008]? = some b) : kb cL_law p b := kin katL_94 rfl hp h
theorem kBL_95 {b : Nat} (p : Nat) (hp : Nat.ble 3040 p = true) (h : kCL_95[p - 3040]? = some b) : kb cL_law p b := kin katL_95 rfl hp h
theorem kBL_96 {b : Nat} (p : Nat) (hp : Nat.ble 3072 p = true) (h : kCL_96[p - 3072]? = some b) : kb cL_law p b := kin katL_96 rfl hp h
theorem kBL_97 {b : Nat} (p : Nat) (hp : Nat.ble 3104 p = true) (h : kCL_97[p - 3104]? = some b) : kb cL_law p b := kin katL_97 rfl hp h
theorem kBL_98 {b : Nat} (p : Nat) (hp : Nat.ble 3136 p = true) (h : kCL_98[p - 3136]? = some b) : kb cL_law p b := kin katL_98 rfl hp h
theorem kBL_99 {b : Nat} (p : Nat) (hp : Nat.ble 3168 p = true) (h : kCL_99[p - 3168]? = some b) : kb cL_law p b := kin katL_99 rfl hp h
theorem kBL_100 {b : Nat} (p : Nat) (hp : Nat.ble 3200 p = true) (h : kCL_100[p - 3200]? = some b) : kb cL_law p b := kin katL_100 rfl hp h
theorem kBL_101 {b : Nat} (p : Nat) (hp : Nat.ble 3232 p = true) (h : kCL_101[p - 3232]? = some b) : kb cL_law p b := kin katL_101 rfl hp h
theorem kBL_102 {b : Nat} (p : Nat) (hp : Nat.ble 3264 p = true) (h : kCL_102[p - 3264]? = some b) : kb cL_law p b := kin katL_102 rfl hp h
theorem kBL_103 {b : Nat} (p : Nat) (hp : Nat.ble 3296 p = true) (h : kCL_103[p - 3296]? = some b) : kb cL_law p b := kin katL_103 rfl hp h
theorem kBL_104 {b : Nat} (p : Nat) (hp : Nat.ble 3328 p = true) (h : kCL_104[p - 3328]? = some b) : kb cL_law p b := kin katL_104 rfl hp h
theorem kBL_105 {b : Nat} (p : Nat) (hp : Nat.ble 3360 p = true) (h : kCL_105[p - 3360]? = some b) : kb cL_law p b := kin katL_105 rfl hp h
theorem kBL_106 {b : Nat} (p : Nat) (hp : Nat.ble 3392 p = true) (h : kCL_106[p - 3392]? = some b) : kb cL_law p b := kin katL_106 rfl hp h
theorem kBL_107 {b : Nat} (p : Nat) (hp : Nat.ble 3424 p = true) (h : kCL_107[p - 3424]? = some b) : kb cL_law p b := kin katL_107 rfl hp h
theorem kBL_108 {b : Nat} (p : Nat) (hp : Nat.ble 3456 p = true) (h : kCL_108[p - 3456]? = some b) : kb cL_law p b := kin katL_108 rfl hp h
theorem kBL_109 {b : Nat} (p : Nat) (hp : Nat.ble 3488 p = true) (h : kCL_109[p - 3488]? = some b) : kb cL_law p b := kin katL_109 rfl hp h
theorem kBL_110 {b : Nat} (p : Nat) (hp : Nat.ble 3520 p = true) (h : kCL_110[p - 3520]? = some b) : kb cL_law p b := kin katL_110 rfl hp h
theorem kBL_111 {b : Nat} (p : Nat) (hp : Nat.ble 3552 p = true) (h : kCL_111[p - 3552]? = some b) : kb cL_law p b := kin katL_111 rfl hp h
theorem kBL_112 {b : Nat} (p : Nat) (hp : Nat.ble 3584 p = true) (h : kCL_112[p - 3584]? = some b) : kb cL_law p b := kin katL_112 rfl hp h
theorem kBL_113 {b : Nat} (p : Nat) (hp : Nat.ble 3616 p = true) (h : kCL_113[p - 3616]? = some b) : kb cL_law p b := kin katL_113 rfl hp h
theorem kBL_114 {b : Nat} (p : Nat) (hp : Nat.ble 3648 p = true) (h : kCL_114[p - 3648]? = some b) : kb cL_law p b := kin katL_114 rfl hp h
theorem kBL_115 {b : Nat} (p : Nat) (hp : Nat.ble 3680 p = true) (h : kCL_115[p - 3680]? = some b) : kb cL_law p b := kin katL_115 rfl hp h
theorem kBL_116 {b : Nat} (p : Nat) (hp : Nat.ble 3712 p = true) (h : kCL_116[p - 3712]? = some b) : kb cL_law p b := kin katL_116 rfl hp h
theorem kBL_117 {b : Nat} (p : Nat) (hp : Nat.ble 3744 p = true) (h : kCL_117[p - 3744]? = some b) : kb cL_law p b := kin katL_117 rfl hp h
theorem kBL_118 {b : Nat} (p : Nat) (hp : Nat.ble 3776 p = true) (h : kCL_118[p - 3776]? = some b) : kb cL_law p b := kin katL_118 rfl hp h
theorem kBL_119 {b : Nat} (p : Nat) (hp : Nat.ble 3808 p = true) (h : kCL_119[p - 3808]? = some b) : kb cL_law p b := kin katL_119 rfl hp h
theorem kBL_120 {b : Nat} (p : Nat) (hp : Nat.ble 3840 p = true) (h : kCL_120[p - 3840]? = some b) : kb cL_law p b := kin katL_120 rfl hp h
theorem kBL_121 {b : Nat} (p : Nat) (hp : Nat.ble 3872 p = true) (h : kCL_121[p - 3872]? = some b) : kb cL_law p b := kin katL_121 rfl hp h
theorem kBL_122 {b : Nat} (p : Nat) (hp : Nat.ble 3904 p = true) (h : kCL_122[p - 3904]? = some b) : kb cL_law p b := kin katL_122 rfl hp h
theorem kBL_123 {b : Nat} (p : Nat) (hp : Nat.ble 3936 p = true) (h : kCL_123[p - 3936]? = some b) : kb cL_law p b := kin katL_123 rfl hp h
theorem kBL_124 {b : Nat} (p : Nat) (hp : Nat.ble 3968 p = true) (h : kCL_124[p - 3968]? = some b) : kb cL_law p b := kin katL_124 rfl hp h
theorem kBL_125 {b : Nat} (p : Nat) (hp : Nat.ble 4000 p = true) (h : kCL_125[p - 4000]? = some b) : kb cL_law p b := kin katL_125 rfl hp h
theorem kBL_126 {b : Nat} (p : Nat) (hp : Nat.ble 4032 p = true) (h : kCL_126[p - 4032]? = some b) : kb cL_law p b := kin katL_126 rfl hp h
theorem kBL_127 {b : Nat} (p : Nat) (hp : Nat.ble 4064 p = true) (h : kCL_127[p - 4064]? = some b) : kb cL_law p b := kin katL_127 rfl hp h
theorem kBL_128 {b : Nat} (p : Nat) (hp : Nat.ble 4096 p = true) (h : kCL_128[p - 4096]? = some b) : kb cL_law p b := kin katL_128 rfl hp h
theorem kBL_129 {b : Nat} (p : Nat) (hp : Nat.ble 4128 p = true) (h : kCL_129[p - 4128]? = some b) : kb cL_law p b := kin katL_129 rfl hp h
theorem kBL_130 {b : Nat} (p : Nat) (hp : Nat.ble 4160 p = true) (h : kCL_130[p - 4160]? = some b) : kb cL_law p b := kin katL_130 rfl hp h
theorem kBL_131 {b : Nat} (p : Nat) (hp : Nat.ble 4192 p = true) (h : kCL_131[p - 4192]? = some b) : kb cL_law p b := kin katL_131 rfl hp h
theorem kBL_132 {b : Nat} (p : Nat) (hp : Nat.ble 4224 p = true) (h : kCL_132[p - 4224]? = some b) : kb cL_law p b := kin katL_132 rfl hp h
theorem kBL_133 {b : Nat} (p : Nat) (hp : Nat.ble 4256 p = true) (h : kCL_133[p - 4256]? = some b) : kb cL_law p b := kin katL_133 rfl hp h
theorem kBL_134 {b : Nat} (p : Nat) (hp : Nat.ble 4288 p = true) (h : kCL_134[p - 4288]? = some b) : kb cL_law p b := kin katL_134 rfl hp h
theorem kBL_135 {b : Nat} (p : Nat) (hp : Nat.ble 4320 p = true) (h : kCL_135[p - 4320]? = some b) : kb cL_law p b := kin katL_135 rfl hp h
theorem kBL_136 {b : Nat} (p : Nat) (hp : Nat.ble 4352 p = true) (h : kCL_136[p - 4352]? = some b) : kb cL_law p b := kin katL_136 rfl hp h
theorem kBL_137 {b : Nat} (p : Nat) (hp : Nat.ble 4384 p = true) (h : kCL_137[p - 4384]? = some b) : kb cL_law p b := kin katL_137 rfl hp h
theorem kBL_138 {b : Nat} (p : Nat) (hp : Nat.ble 4416 p = true) (h : kCL_138[p - 4416]? = some b) : kb cL_law p b := kin katL_138 rfl hp h
theorem kBL_139 {b : Nat} (p : Nat) (hp : Nat.ble 4448 p = true) (h : kCL_139[p - 4448]? = some b) : kb cL_law p b := kin katL_139 rfl hp h
theorem kBL_140 {b : Nat} (p : Nat) (hp : Nat.ble 4480 p = true) (h : kCL_140[p - 4480]? = some b) : kb cL_law p b := kin katL_140 rfl hp h
