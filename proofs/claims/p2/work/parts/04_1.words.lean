set_option maxRecDepth 100000 in
theorem gT_0_lw : ∀ w ∈ gT_0, w ∈ lw_tbl := kmem_r gT_0 [0, 1, 2, 3, 4, 5, 6, 8, 9, 10, 11, 12, 13, 14, 15, 16, 17, 18, 19, 20, 21, 22, 23, 24] rfl
theorem gT_0_ok : ∀ w ∈ gT_0, (w.onTables && w.keeps) = true ∨ ∃ ty, w = .arrayClass ty := kgood_r (by decide +kernel)
set_option maxRecDepth 100000 in
theorem gT_1_lw : ∀ w ∈ gT_1, w ∈ lw_tbl := kmem_r gT_1 [25, 26, 27, 28, 29, 30, 31, 32, 33, 34, 35, 36, 37, 38, 39, 40, 41, 42, 43, 44, 45, 46, 47, 48] rfl
theorem gT_1_ok : ∀ w ∈ gT_1, (w.onTables && w.keeps) = true ∨ ∃ ty, w = .arrayClass ty := kgood_r (by decide +kernel)
set_option maxRecDepth 100000 in
theorem gT_2_lw : ∀ w ∈ gT_2, w ∈ lw_tbl := kmem_r gT_2 [49, 53, 54, 55, 56, 57, 58, 59, 60, 61, 62, 63, 64, 65, 66, 67, 68, 69, 70, 71, 72, 73, 74, 75] rfl
theorem gT_2_ok : ∀ w ∈ gT_2, (w.onTables && w.keeps) = true ∨ ∃ ty, w = .arrayClass ty := kgood_r (by decide +kernel)
set_option maxRecDepth 100000 in
theorem gT_3_lw : ∀ w ∈ gT_3, w ∈ lw_tbl := kmem_r gT_3 [76, 77, 78, 79, 80, 81, 82, 83, 84, 86, 87, 88, 89, 90, 91, 92, 93, 94, 95, 96, 97, 106, 107, 108] rfl
theorem gT_3_ok : ∀ w ∈ gT_3, (w.onTables && w.keeps) = true ∨ ∃ ty, w = .arrayClass ty := kgood_r (by decide +kernel)
set_option maxRecDepth 100000 in
theorem gT_4_lw : ∀ w ∈ gT_4, w ∈ lw_tbl := kmem_r gT_4 [109, 110, 111, 112, 113, 114, 115, 116, 117, 135, 136, 137, 138, 139, 140, 141, 142, 143, 144, 145, 146, 147, 148, 149] rfl
theorem gT_4_ok : ∀ w ∈ gT_4, (w.onTables && w.keeps) = true ∨ ∃ ty, w = .arrayClass ty := kgood_r (by decide +kernel)
set_option maxRecDepth 100000 in
theorem gT_5_lw : ∀ w ∈ gT_5, w ∈ lw_tbl := kmem_r gT_5 [150, 151, 152, 153, 154, 155, 156, 157, 158, 159, 160, 161, 162, 163, 164, 165, 166, 167, 168, 169, 170, 171, 172, 173] rfl
theorem gT_5_ok : ∀ w ∈ gT_5, (w.onTables && w.keeps) = true ∨ ∃ ty, w = .arrayClass ty := kgood_r (by decide +kernel)
set_option maxRecDepth 100000 in
theorem gT_6_lw : ∀ w ∈ gT_6, w ∈ lw_tbl := kmem_r gT_6 [174, 175, 176, 177, 178, 179, 180, 181, 182, 183, 184, 185, 186, 187, 188, 189, 190, 191, 192, 193, 194, 195, 196, 197] rfl
theorem gT_6_ok : ∀ w ∈ gT_6, (w.onTables && w.keeps) = true ∨ ∃ ty, w = .arrayClass ty := kgood_r (by decide +kernel)
set_option maxRecDepth 100000 in
theorem gT_7_lw : ∀ w ∈ gT_7, w ∈ lw_tbl := kmem_r gT_7 [198, 199, 200, 201, 202, 203, 204, 205, 206, 207, 208, 209, 210, 211, 212, 213, 214, 215, 216, 217, 218, 219, 220, 222] rfl
theorem gT_7_ok : ∀ w ∈ gT_7, (w.onTables && w.keeps) = true ∨ ∃ ty, w = .arrayClass ty := kgood_r (by decide +kernel)
set_option maxRecDepth 100000 in
theorem gT_8_lw : ∀ w ∈ gT_8, w ∈ lw_tbl := kmem_r gT_8 [223, 224, 226, 227, 228, 230, 231, 232, 234, 235, 236, 238, 239, 240, 241, 242, 243, 245, 246, 247, 248, 249, 250, 251] rfl
theorem gT_8_ok : ∀ w ∈ gT_8, (w.onTables && w.keeps) = true ∨ ∃ ty, w = .arrayClass ty := kgood_r (by decide +kernel)
set_option maxRecDepth 100000 in
theorem gT_9_lw : ∀ w ∈ gT_9, w ∈ lw_tbl := kmem_r gT_9 [252, 254, 255, 256, 257, 258, 259, 260, 261, 262, 263, 264, 332, 333, 334, 335, 351, 352, 353, 354, 355, 356, 357, 359] rfl
theorem gT_9_ok : ∀ w ∈ gT_9, (w.onTables && w.keeps) = true ∨ ∃ ty, w = .arrayClass ty := kgood_r (by decide +kernel)
set_option maxRecDepth 100000 in
theorem gT_10_lw : ∀ w ∈ gT_10, w ∈ lw_tbl := kmem_r gT_10 [360, 361, 363, 364, 365, 366, 367, 368, 369, 370, 371, 372, 373, 376, 377, 378, 380, 381, 382, 383, 384, 385, 386, 387] rfl
theorem gT_10_ok : ∀ w ∈ gT_10, (w.onTables && w.keeps) = true ∨ ∃ ty, w = .arrayClass ty := kgood_r (by decide +kernel)
set_option maxRecDepth 100000 in
theorem gT_11_lw : ∀ w ∈ gT_11, w ∈ lw_tbl := kmem_r gT_11 [389, 390, 391, 393, 394, 395, 397, 398, 399, 400, 401, 402, 403, 404, 405, 406, 407, 408, 409, 410, 411, 412, 413, 414] rfl
theorem gT_11_ok : ∀ w ∈ gT_11, (w.onTables && w.keeps) = true ∨ ∃ ty, w = .arrayClass ty := kgood_r (by decide +kernel)
set_option maxRecDepth 100000 in
theorem gT_12_lw : ∀ w ∈ gT_12, w ∈ lw_tbl := kmem_r gT_12 [415, 416, 417, 419, 420, 421, 422, 423, 424, 425, 426, 427, 428, 429, 430, 431, 432, 433, 434, 435, 436, 437, 438, 439] rfl
theorem gT_12_ok : ∀ w ∈ gT_12, (w.onTables && w.keeps) = true ∨ ∃ ty, w = .arrayClass ty := kgood_r (by decide +kernel)
set_option maxRecDepth 100000 in
theorem gT_13_lw : ∀ w ∈ gT_13, w ∈ lw_tbl := kmem_r gT_13 [440, 441, 442, 443, 445, 446, 447, 448, 449, 450, 451, 453, 455, 457, 458, 459, 460, 461, 462, 463, 464, 465, 466, 468] rfl
theorem gT_13_ok : ∀ w ∈ gT_13, (w.onTables && w.keeps) = true ∨ ∃ ty, w = .arrayClass ty := kgood_r (by decide +kernel)
set_option maxRecDepth 100000 in
theorem gT_14_lw : ∀ w ∈ gT_14, w ∈ lw_tbl := kmem_r gT_14 [469, 470, 472, 473, 474, 475, 477, 478, 479, 480, 481, 482, 483, 484, 485, 486, 487, 488, 489, 490, 491, 492, 493, 494] rfl
theorem gT_14_ok : ∀ w ∈ gT_14, (w.onTables && w.keeps) = true ∨ ∃ ty, w = .arrayClass ty := kgood_r (by decide +kernel)
set_option maxRecDepth 100000 in
theorem gT_15_lw : ∀ w ∈ gT_15, w ∈ lw_tbl := kmem_r gT_15 [495, 496, 497, 498, 499, 500, 501, 502, 503, 504, 505, 506, 507, 508, 509, 510, 511, 512, 513, 515, 517, 518, 519, 520] rfl
theorem gT_15_ok : ∀ w ∈ gT_15, (w.onTables && w.keeps) = true ∨ ∃ ty, w = .arrayClass ty := kgood_r (by decide +kernel)
set_option maxRecDepth 100000 in
theorem gT_16_lw : ∀ w ∈ gT_16, w ∈ lw_tbl := kmem_r gT_16 [521, 522, 523, 524, 525, 526, 527, 528, 529, 530, 531, 532, 533, 534, 535, 536, 537, 538, 539, 540, 541, 542, 543, 544] rfl
theorem gT_16_ok : ∀ w ∈ gT_16, (w.onTables && w.keeps) = true ∨ ∃ ty, w = .arrayClass ty := kgood_r (by decide +kernel)
set_option maxRecDepth 100000 in
theorem gT_17_lw : ∀ w ∈ gT_17, w ∈ lw_tbl := kmem_r gT_17 [545, 546, 547, 548, 549, 550, 551, 552, 553, 554, 555, 556, 557, 558, 559, 560, 562, 569, 570, 571, 572, 573, 574, 575] rfl
theorem gT_17_ok : ∀ w ∈ gT_17, (w.onTables && w.keeps) = true ∨ ∃ ty, w = .arrayClass ty := kgood_r (by decide +kernel)
set_option maxRecDepth 100000 in
theorem gT_18_lw : ∀ w ∈ gT_18, w ∈ lw_tbl := kmem_r gT_18 [576, 577, 578, 579, 580, 581, 582, 583, 601, 602, 603, 604, 605, 606, 607, 608, 609, 613, 614, 626, 627, 628, 630, 631] rfl
theorem gT_18_ok : ∀ w ∈ gT_18, (w.onTables && w.keeps) = true ∨ ∃ ty, w = .arrayClass ty := kgood_r (by decide +kernel)
set_option maxRecDepth 100000 in
theorem gT_19_lw : ∀ w ∈ gT_19, w ∈ lw_tbl := kmem_r gT_19 [632, 636, 637, 638, 639, 640, 641, 642, 643, 644, 645, 646, 647, 648, 649, 650, 651, 652, 653, 654, 655, 656, 657, 658] rfl
theorem gT_19_ok : ∀ w ∈ gT_19, (w.onTables && w.keeps) = true ∨ ∃ ty, w = .arrayClass ty := kgood_r (by decide +kernel)
set_option maxRecDepth 100000 in
theorem gT_20_lw : ∀ w ∈ gT_20, w ∈ lw_tbl := kmem_r gT_20 [659, 660, 661, 662, 663, 664, 665, 666, 667, 668, 669, 670, 671, 672, 673, 674, 675, 676, 677, 678, 679, 680, 681, 682] rfl
theorem gT_20_ok : ∀ w ∈ gT_20, (w.onTables && w.keeps) = true ∨ ∃ ty, w = .arrayClass ty := kgood_r (by decide +kernel)
set_option maxRecDepth 100000 in
theorem gT_21_lw : ∀ w ∈ gT_21, w ∈ lw_tbl := kmem_r gT_21 [683, 684, 685, 686, 687, 688, 689, 690, 691, 692, 693, 694, 695, 696, 697, 698, 699, 700, 701, 702, 703, 704, 705, 706] rfl
theorem gT_21_ok : ∀ w ∈ gT_21, (w.onTables && w.keeps) = true ∨ ∃ ty, w = .arrayClass ty := kgood_r (by decide +kernel)
set_option maxRecDepth 100000 in
theorem gT_22_lw : ∀ w ∈ gT_22, w ∈ lw_tbl := kmem_r gT_22 [708, 709, 710, 711, 712, 713, 714, 716, 717, 718, 719, 720, 721, 722, 723, 725, 726, 727, 728, 729, 730, 731, 732, 733] rfl
theorem gT_22_ok : ∀ w ∈ gT_22, (w.onTables && w.keeps) = true ∨ ∃ ty, w = .arrayClass ty := kgood_r (by decide +kernel)
set_option maxRecDepth 100000 in
theorem gT_23_lw : ∀ w ∈ gT_23, w ∈ lw_tbl := kmem_r gT_23 [734, 736, 737, 738, 739, 740, 741, 742, 743, 745, 746, 747, 749, 750, 751, 753, 754, 755, 756, 757, 758, 759, 761, 762] rfl
theorem gT_23_ok : ∀ w ∈ gT_23, (w.onTables && w.keeps) = true ∨ ∃ ty, w = .arrayClass ty := kgood_r (by decide +kernel)
set_option maxRecDepth 100000 in
theorem gT_24_lw : ∀ w ∈ gT_24, w ∈ lw_tbl := kmem_r gT_24 [763, 764, 765, 766, 767, 768, 769, 770, 771, 772, 774, 775, 776, 777, 778, 779, 780, 782, 783, 784, 785, 786, 788, 789] rfl
theorem gT_24_ok : ∀ w ∈ gT_24, (w.onTables && w.keeps) = true ∨ ∃ ty, w = .arrayClass ty := kgood_r (by decide +kernel)
set_option maxRecDepth 100000 in
theorem gT_25_lw : ∀ w ∈ gT_25, w ∈ lw_tbl := kmem_r gT_25 [790, 798, 799, 800, 801, 802, 803, 804, 805, 806, 807, 808, 809, 810, 811, 812, 813, 815, 816, 817, 818, 819, 820, 821] rfl
theorem gT_25_ok : ∀ w ∈ gT_25, (w.onTables && w.keeps) = true ∨ ∃ ty, w = .arrayClass ty := kgood_r (by decide +kernel)
set_option maxRecDepth 100000 in
theorem gT_26_lw : ∀ w ∈ gT_26, w ∈ lw_tbl := kmem_r gT_26 [822, 823, 824, 825, 826, 827, 828, 829, 830, 831, 832, 833, 834, 835, 836, 837, 838, 840, 841, 842, 843, 844, 845, 846] rfl
theorem gT_26_ok : ∀ w ∈ gT_26, (w.onTables && w.keeps) = true ∨ ∃ ty, w = .arrayClass ty := kgood_r (by decide +kernel)
set_option maxRecDepth 100000 in
theorem gT_27_lw : ∀ w ∈ gT_27, w ∈ lw_tbl := kmem_r gT_27 [847, 848, 849, 850, 851, 852, 853, 854, 855, 856, 857, 858, 859, 860, 861, 862, 863, 864, 865, 866, 867, 868, 869, 870] rfl
theorem gT_27_ok : ∀ w ∈ gT_27, (w.onTables && w.keeps) = true ∨ ∃ ty, w = .arrayClass ty := kgood_r (by decide +kernel)
set_option maxRecDepth 100000 in
theorem gT_28_lw : ∀ w ∈ gT_28, w ∈ lw_tbl := kmem_r gT_28 [871, 872, 873, 874, 875, 876, 877, 878, 879, 880, 881, 882, 883, 884, 885, 886, 887, 888, 889, 890, 891, 892, 893, 894] rfl
theorem gT_28_ok : ∀ w ∈ gT_28, (w.onTables && w.keeps) = true ∨ ∃ ty, w = .arrayClass ty := kgood_r (by decide +kernel)
set_option maxRecDepth 100000 in
theorem gT_29_lw : ∀ w ∈ gT_29, w ∈ lw_tbl := kmem_r gT_29 [895, 896, 897, 898, 899, 900, 901, 902, 903, 904, 905, 906, 907, 908, 909, 910, 911, 912, 913, 914, 915, 916, 917, 918] rfl
theorem gT_29_ok : ∀ w ∈ gT_29, (w.onTables && w.keeps) = true ∨ ∃ ty, w = .arrayClass ty := kgood_r (by decide +kernel)
set_option maxRecDepth 100000 in
theorem gT_30_lw : ∀ w ∈ gT_30, w ∈ lw_tbl := kmem_r gT_30 [919, 920, 921, 922, 923, 924, 925, 926, 927, 928, 929, 930, 931, 932, 933, 934, 935, 937, 938, 939, 940, 941, 942, 943] rfl
theorem gT_30_ok : ∀ w ∈ gT_30, (w.onTables && w.keeps) = true ∨ ∃ ty, w = .arrayClass ty := kgood_r (by decide +kernel)
set_option maxRecDepth 100000 in
theorem gT_31_lw : ∀ w ∈ gT_31, w ∈ lw_tbl := kmem_r gT_31 [944, 945, 946, 947, 948, 950, 951, 952, 953, 954, 955, 956, 957, 958, 959, 960, 961, 962, 963, 964, 965, 966, 967, 968] rfl
theorem gT_31_ok : ∀ w ∈ gT_31, (w.onTables && w.keeps) = true ∨ ∃ ty, w = .arrayClass ty := kgood_r (by decide +kernel)
set_option maxRecDepth 100000 in
theorem gT_32_lw : ∀ w ∈ gT_32, w ∈ lw_tbl := kmem_r gT_32 [969, 970, 971, 972, 973, 974, 975, 976, 977, 978, 979, 980, 981, 982, 983, 984, 985, 986, 987, 988, 989, 990, 991, 993] rfl
theorem gT_32_ok : ∀ w ∈ gT_32, (w.onTables && w.keeps) = true ∨ ∃ ty, w = .arrayClass ty := kgood_r (by decide +kernel)
set_option maxRecDepth 100000 in
theorem gT_33_lw : ∀ w ∈ gT_33, w ∈ lw_tbl := kmem_r gT_33 [994, 995, 996, 997, 998, 999, 1000, 1001, 1002, 1003, 1004, 1005, 1006, 1007, 1008, 1009, 1010, 1011, 1012, 1013, 1014, 1015, 1016, 1017] rfl
theorem gT_33_ok : ∀ w ∈ gT_33, (w.onTables && w.keeps) = true ∨ ∃ ty, w = .arrayClass ty := kgood_r (by decide +kernel)
set_option maxRecDepth 100000 in
theorem gT_34_lw : ∀ w ∈ gT_34, w ∈ lw_tbl := kmem_r gT_34 [1018, 1019, 1020, 1021, 1022, 1023, 1024, 1025, 1026, 1027, 1028, 1029, 1030, 1031, 1032, 1033, 1034, 1035, 1036, 1037, 1038, 1040, 1041, 1042] rfl
theorem gT_34_ok : ∀ w ∈ gT_34, (w.onTables && w.keeps) = true ∨ ∃ ty, w = .arrayClass ty := kgood_r (by decide +kernel)
set_option maxRecDepth 100000 in
theorem gT_35_lw : ∀ w ∈ gT_35, w ∈ lw_tbl := kmem_r gT_35 [1043, 1044, 1045, 1046, 1047, 1048, 1049, 1050, 1051, 1052, 1053, 1054, 1055, 1056, 1057, 1058, 1059, 1060, 1061, 1062, 1063, 1064, 1065, 1066] rfl
theorem gT_35_ok : ∀ w ∈ gT_35, (w.onTables && w.keeps) = true ∨ ∃ ty, w = .arrayClass ty := kgood_r (by decide +kernel)
set_option maxRecDepth 100000 in
theorem gT_36_lw : ∀ w ∈ gT_36, w ∈ lw_tbl := kmem_r gT_36 [1067, 1069, 1070, 1071, 1072, 1073, 1074, 1075, 1076, 1077, 1078, 1079, 1080, 1081, 1082, 1083, 1084, 1085, 1086, 1087, 1088, 1089, 1091, 1092] rfl
theorem gT_36_ok : ∀ w ∈ gT_36, (w.onTables && w.keeps) = true ∨ ∃ ty, w = .arrayClass ty := kgood_r (by decide +kernel)
set_option maxRecDepth 100000 in
theorem gT_37_lw : ∀ w ∈ gT_37, w ∈ lw_tbl := kmem_r gT_37 [1093, 1094, 1095, 1096, 1097, 1098, 1099, 1100, 1101, 1102, 1103, 1104, 1105, 1106, 1107, 1108, 1109, 1110, 1111, 1112, 1113, 1114, 1115, 1116] rfl
theorem gT_37_ok : ∀ w ∈ gT_37, (w.onTables && w.keeps) = true ∨ ∃ ty, w = .arrayClass ty := kgood_r (by decide +kernel)
set_option maxRecDepth 100000 in
theorem gT_38_lw : ∀ w ∈ gT_38, w ∈ lw_tbl := kmem_r gT_38 [1117, 1118, 1119, 1120, 1121, 1122, 1123, 1124, 1125, 1126, 1127, 1128, 1129, 1130, 1131, 1132, 1133, 1134, 1135, 1136, 1137, 1138, 1139, 1140] rfl
theorem gT_38_ok : ∀ w ∈ gT_38, (w.onTables && w.keeps) = true ∨ ∃ ty, w = .arrayClass ty := kgood_r (by decide +kernel)
set_option maxRecDepth 100000 in
theorem gT_39_lw : ∀ w ∈ gT_39, w ∈ lw_tbl := kmem_r gT_39 [1141, 1142, 1143, 1144, 1145, 1146, 1147, 1148, 1149, 1150, 1151, 1152, 1153, 1154, 1155, 1156, 1157, 1158, 1159, 1160, 1161, 1162, 1163, 1164] rfl
theorem gT_39_ok : ∀ w ∈ gT_39, (w.onTables && w.keeps) = true ∨ ∃ ty, w = .arrayClass ty := kgood_r (by decide +kernel)
set_option maxRecDepth 100000 in
theorem gT_40_lw : ∀ w ∈ gT_40, w ∈ lw_tbl := kmem_r gT_40 [1165, 1166, 1167, 1168, 1169, 1170, 1171, 1172, 1173, 1174, 1175, 1176, 1177, 1178, 1179, 1180, 1181, 1182, 1183, 1184, 1185, 1186, 1187, 1188] rfl
theorem gT_40_ok : ∀ w ∈ gT_40, (w.onTables && w.keeps) = true ∨ ∃ ty, w = .arrayClass ty := kgood_r (by decide +kernel)
set_option maxRecDepth 100000 in
theorem gT_41_lw : ∀ w ∈ gT_41, w ∈ lw_tbl := kmem_r gT_41 [1189, 1190, 1191, 1192, 1193, 1194, 1195, 1196, 1197, 1198, 1199, 1200, 1201, 1202, 1203, 1204, 1205, 1206, 1207, 1208, 1209, 1210, 1211, 1213] rfl
theorem gT_41_ok : ∀ w ∈ gT_41, (w.onTables && w.keeps) = true ∨ ∃ ty, w = .arrayClass ty := kgood_r (by decide +kernel)
set_option maxRecDepth 100000 in
theorem gT_42_lw : ∀ w ∈ gT_42, w ∈ lw_tbl := kmem_r gT_42 [1214, 1215, 1216, 1217, 1218, 1232, 1233, 1234, 1235, 1236, 1237, 1238, 1239, 1240, 1241, 1242, 1243, 1244, 1245, 1246, 1247, 1248, 1249, 1250] rfl
theorem gT_42_ok : ∀ w ∈ gT_42, (w.onTables && w.keeps) = true ∨ ∃ ty, w = .arrayClass ty := kgood_r (by decide +kernel)
set_option maxRecDepth 100000 in
theorem gT_43_lw : ∀ w ∈ gT_43, w ∈ lw_tbl := kmem_r gT_43 [1251, 1252, 1253, 1254, 1255, 1256, 1258, 1259, 1260, 1262, 1263, 1264, 1266, 1267, 1268, 1269, 1270, 1271, 1272, 1273, 1274, 1275, 1276, 1277] rfl
theorem gT_43_ok : ∀ w ∈ gT_43, (w.onTables && w.keeps) = true ∨ ∃ ty, w = .arrayClass ty := kgood_r (by decide +kernel)
set_option maxRecDepth 100000 in
theorem gT_44_lw : ∀ w ∈ gT_44, w ∈ lw_tbl := kmem_r gT_44 [1279, 1280, 1281, 1282, 1283, 1284, 1285, 1286, 1287, 1288, 1289, 1290, 1291, 1292, 1293, 1294, 1295, 1296, 1297, 1298, 1299, 1301, 1302, 1303] rfl
theorem gT_44_ok : ∀ w ∈ gT_44, (w.onTables && w.keeps) = true ∨ ∃ ty, w = .arrayClass ty := kgood_r (by decide +kernel)
set_option maxRecDepth 100000 in
theorem gT_45_lw : ∀ w ∈ gT_45, w ∈ lw_tbl := kmem_r gT_45 [1304, 1305, 1306, 1307, 1308, 1309, 1310, 1311, 1312, 1313, 1314, 1315, 1317, 1318, 1319, 1320, 1321, 1322, 1323, 1324, 1325, 1326, 1327, 1328] rfl
theorem gT_45_ok : ∀ w ∈ gT_45, (w.onTables && w.keeps) = true ∨ ∃ ty, w = .arrayClass ty := kgood_r (by decide +kernel)
set_option maxRecDepth 100000 in
theorem gT_46_lw : ∀ w ∈ gT_46, w ∈ lw_tbl := kmem_r gT_46 [1329, 1330, 1331, 1332, 1333, 1334, 1335, 1336, 1337, 1338, 1339, 1340, 1341, 1342, 1343, 1344, 1345, 1346, 1347, 1348, 1349, 1350, 1351, 1352] rfl
theorem gT_46_ok : ∀ w ∈ gT_46, (w.onTables && w.keeps) = true ∨ ∃ ty, w = .arrayClass ty := kgood_r (by decide +kernel)
set_option maxRecDepth 100000 in
theorem gT_47_lw : ∀ w ∈ gT_47, w ∈ lw_tbl := kmem_r gT_47 [1353, 1354, 1355, 1356, 1357, 1358, 1359, 1360, 1361, 1362, 1363, 1364, 1365, 1366, 1367, 1368, 1369, 1370, 1371, 1372, 1373, 1375, 1376, 1377] rfl
theorem gT_47_ok : ∀ w ∈ gT_47, (w.onTables && w.keeps) = true ∨ ∃ ty, w = .arrayClass ty := kgood_r (by decide +kernel)
set_option maxRecDepth 100000 in
theorem gT_48_lw : ∀ w ∈ gT_48, w ∈ lw_tbl := kmem_r gT_48 [1378, 1379, 1380, 1381, 1382, 1383, 1384, 1385, 1386, 1387, 1388, 1389, 1390, 1391, 1392, 1393, 1394, 1395, 1396, 1397, 1398, 1399, 1400, 1401] rfl
theorem gT_48_ok : ∀ w ∈ gT_48, (w.onTables && w.keeps) = true ∨ ∃ ty, w = .arrayClass ty := kgood_r (by decide +kernel)
set_option maxRecDepth 100000 in
theorem gT_49_lw : ∀ w ∈ gT_49, w ∈ lw_tbl := kmem_r gT_49 [1402, 1403, 1404, 1405, 1406, 1408, 1409, 1410, 1411, 1412, 1413, 1414, 1415, 1416, 1417, 1418, 1419, 1420, 1421, 1422, 1423, 1424, 1425, 1426] rfl
theorem gT_49_ok : ∀ w ∈ gT_49, (w.onTables && w.keeps) = true ∨ ∃ ty, w = .arrayClass ty := kgood_r (by decide +kernel)
set_option maxRecDepth 100000 in
theorem gT_50_lw : ∀ w ∈ gT_50, w ∈ lw_tbl := kmem_r gT_50 [1427, 1428, 1429, 1430, 1431, 1432, 1433, 1434, 1435, 1436, 1437, 1438, 1440, 1441, 1442, 1443, 1444, 1445, 1446, 1447, 1448, 1449, 1450, 1451] rfl
theorem gT_50_ok : ∀ w ∈ gT_50, (w.onTables && w.keeps) = true ∨ ∃ ty, w = .arrayClass ty := kgood_r (by decide +kernel)
set_option maxRecDepth 100000 in
theorem gT_51_lw : ∀ w ∈ gT_51, w ∈ lw_tbl := kmem_r gT_51 [1452, 1453, 1454, 1455, 1456, 1457, 1458, 1459, 1460, 1461, 1462, 1463, 1464, 1465, 1466, 1467, 1468, 1469, 1470, 1471, 1472, 1473, 1474, 1475] rfl
theorem gT_51_ok : ∀ w ∈ gT_51, (w.onTables && w.keeps) = true ∨ ∃ ty, w = .arrayClass ty := kgood_r (by decide +kernel)
set_option maxRecDepth 100000 in
theorem gT_52_lw : ∀ w ∈ gT_52, w ∈ lw_tbl := kmem_r gT_52 [1476, 1477, 1478, 1479, 1480, 1481, 1482, 1483, 1485, 1486, 1487, 1488, 1489, 1490, 1492, 1493, 1494, 1495, 1496, 1497, 1498, 1499, 1500, 1501] rfl
theorem gT_52_ok : ∀ w ∈ gT_52, (w.onTables && w.keeps) = true ∨ ∃ ty, w = .arrayClass ty := kgood_r (by decide +kernel)
set_option maxRecDepth 100000 in
theorem gT_53_lw : ∀ w ∈ gT_53, w ∈ lw_tbl := kmem_r gT_53 [1502, 1503, 1504, 1505, 1506, 1507, 1508, 1509, 1510, 1511, 1512, 1513, 1514, 1515, 1516, 1517, 1518, 1519, 1520, 1521, 1522, 1523, 1524, 1525] rfl
theorem gT_53_ok : ∀ w ∈ gT_53, (w.onTables && w.keeps) = true ∨ ∃ ty, w = .arrayClass ty := kgood_r (by decide +kernel)
set_option maxRecDepth 100000 in
theorem gT_54_lw : ∀ w ∈ gT_54, w ∈ lw_tbl := kmem_r gT_54 [1526, 1527, 1528, 1529, 1530, 1531, 1532, 1533, 1534, 1535, 1536, 1537, 1538, 1539, 1540, 1541, 1543, 1544, 1545, 1546, 1547, 1548, 1549, 1551] rfl
theorem gT_54_ok : ∀ w ∈ gT_54, (w.onTables && w.keeps) = true ∨ ∃ ty, w = .arrayClass ty := kgood_r (by decide +kernel)
set_option maxRecDepth 100000 in
theorem gT_55_lw : ∀ w ∈ gT_55, w ∈ lw_tbl := kmem_r gT_55 [1552, 1553, 1554, 1555, 1556, 1557, 1559, 1560, 1561, 1562, 1563, 1564, 1565, 1566, 1567, 1568, 1569, 1570, 1571, 1572, 1573, 1574, 1575, 1576] rfl
theorem gT_55_ok : ∀ w ∈ gT_55, (w.onTables && w.keeps) = true ∨ ∃ ty, w = .arrayClass ty := kgood_r (by decide +kernel)
set_option maxRecDepth 100000 in
theorem gT_56_lw : ∀ w ∈ gT_56, w ∈ lw_tbl := kmem_r gT_56 [1577, 1578, 1579, 1580, 1581, 1582, 1583, 1584, 1585, 1587, 1588, 1589, 1590, 1591, 1592, 1593, 1594, 1595, 1596, 1597, 1598, 1599, 1600, 1601] rfl
theorem gT_56_ok : ∀ w ∈ gT_56, (w.onTables && w.keeps) = true ∨ ∃ ty, w = .arrayClass ty := kgood_r (by decide +kernel)
set_option maxRecDepth 100000 in
theorem gT_57_lw : ∀ w ∈ gT_57, w ∈ lw_tbl := kmem_r gT_57 [1602, 1603, 1604, 1605, 1606, 1608, 1609, 1610, 1611, 1612, 1613, 1614, 1615, 1616, 1617, 1618, 1619, 1620, 1621, 1622, 1623, 1624, 1625, 1626] rfl
theorem gT_57_ok : ∀ w ∈ gT_57, (w.onTables && w.keeps) = true ∨ ∃ ty, w = .arrayClass ty := kgood_r (by decide +kernel)
set_option maxRecDepth 100000 in
theorem gT_58_lw : ∀ w ∈ gT_58, w ∈ lw_tbl := kmem_r gT_58 [1627, 1628, 1629, 1630, 1631, 1632, 1633, 1634, 1635, 1636, 1638, 1639, 1640, 1641, 1642, 1643, 1644, 1645, 1646, 1647, 1648, 1649, 1650, 1651] rfl
theorem gT_58_ok : ∀ w ∈ gT_58, (w.onTables && w.keeps) = true ∨ ∃ ty, w = .arrayClass ty := kgood_r (by decide +kernel)
set_option maxRecDepth 100000 in
theorem gT_59_lw : ∀ w ∈ gT_59, w ∈ lw_tbl := kmem_r gT_59 [1652, 1653, 1654, 1655, 1656, 1657, 1658, 1659, 1660, 1661, 1662, 1663, 1664, 1665, 1666, 1667, 1668, 1669, 1670, 1672, 1673, 1674, 1675, 1676] rfl
theorem gT_59_ok : ∀ w ∈ gT_59, (w.onTables && w.keeps) = true ∨ ∃ ty, w = .arrayClass ty := kgood_r (by decide +kernel)
set_option maxRecDepth 100000 in
theorem gT_60_lw : ∀ w ∈ gT_60, w ∈ lw_tbl := kmem_r gT_60 [1677, 1678, 1679, 1680, 1681, 1682, 1683, 1684, 1685] rfl
theorem gT_60_ok : ∀ w ∈ gT_60, (w.onTables && w.keeps) = true ∨ ∃ ty, w = .arrayClass ty := kgood_r (by decide +kernel)
theorem gS_0_ok : ∀ w ∈ gS_0, (w.onTables && w.keeps) = true ∨ ∃ ty, w = .arrayClass ty := kgood_r (by decide +kernel)
theorem gS_1_ok : ∀ w ∈ gS_1, (w.onTables && w.keeps) = true ∨ ∃ ty, w = .arrayClass ty := kgood_r (by decide +kernel)
theorem gS_2_ok : ∀ w ∈ gS_2, (w.onTables && w.keeps) = true ∨ ∃ ty, w = .arrayClass ty := kgood_r (by decide +kernel)
theorem gF_0_ok : ∀ w ∈ gF_0, (w.onTables && w.keeps) = true ∨ ∃ ty, w = .arrayClass ty := kgood_r (by decide +kernel)
theorem gF_1_ok : ∀ w ∈ gF_1, (w.onTables && w.keeps) = true ∨ ∃ ty, w = .arrayClass ty := kgood_r (by decide +kernel)
theorem gF_2_ok : ∀ w ∈ gF_2, (w.onTables && w.keeps) = true ∨ ∃ ty, w = .arrayClass ty := kgood_r (by decide +kernel)
theorem gF_3_ok : ∀ w ∈ gF_3, (w.onTables && w.keeps) = true ∨ ∃ ty, w = .arrayClass ty := kgood_r (by decide +kernel)
theorem gF_4_ok : ∀ w ∈ gF_4, (w.onTables && w.keeps) = true ∨ ∃ ty, w = .arrayClass ty := kgood_r (by decide +kernel)
theorem gS_1_lw : ∀ w ∈ gS_1, w ∈ lw_tbl := by decide +kernel
theorem gS_2_lw : ∀ w ∈ gS_2, w ∈ lw_tbl := by decide +kernel
theorem gF_0_lw : ∀ w ∈ gF_0, w ∈ lw_tbl := by decide +kernel
theorem gF_1_lw : ∀ w ∈ gF_1, w ∈ lw_tbl := by decide +kernel
theorem gF_2_lw : ∀ w ∈ gF_2, w ∈ lw_tbl := by decide +kernel
theorem gF_3_lw : ∀ w ∈ gF_3, w ∈ lw_tbl := by decide +kernel
theorem gF_4_lw : ∀ w ∈ gF_4, w ∈ lw_tbl := by decide +kernel
