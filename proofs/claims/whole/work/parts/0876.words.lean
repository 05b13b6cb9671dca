/-! LAW KIT 8: the law's words in the tables -/
set_option maxRecDepth 20000 in
theorem wsLin_0 : ∀ w ∈ wsL_law0_r1, w ∈ lw_tbl := fun w h => (goodIn_r wsL_law0_r1 [50, 51, 34, 815, 816, 42, 1147, 1146, 52, 53, 54, 55, 56, 57, 58, 59, 35, 188, 189, 111, 112, 37, 190, 140] (by decide +kernel) (by decide +kernel) w h).1
set_option maxRecDepth 20000 in
theorem wsLin_1 : ∀ w ∈ wsL_law0_r2, w ∈ lw_tbl := fun w h => (goodIn_r wsL_law0_r2 [141, 38, 191, 154, 155, 39, 192, 186, 161, 40, 193, 61, 62, 63, 64, 65, 36, 87, 86, 90, 91, 92, 67, 68] (by decide +kernel) (by decide +kernel) w h).1
set_option maxRecDepth 20000 in
theorem wsLin_2 : ∀ w ∈ wsL_law0_r3, w ∈ lw_tbl := fun w h => (goodIn_r wsL_law0_r3 [69, 70, 71, 72, 73, 74, 114, 115, 116, 117, 118, 143, 144, 145, 146, 157, 158, 159, 160, 175, 162, 163, 164, 165] (by decide +kernel) (by decide +kernel) w h).1
set_option maxRecDepth 20000 in
theorem wsLin_3 : ∀ w ∈ wsL_law0_r4, w ∈ lw_tbl := fun w h => (goodIn_r wsL_law0_r4 [166, 167, 41, 168, 169, 171, 187, 817, 818, 819, 820, 822, 824, 825, 826, 828, 879, 829, 830, 831, 832, 833, 412, 413] (by decide +kernel) (by decide +kernel) w h).1
set_option maxRecDepth 20000 in
theorem wsLin_4 : ∀ w ∈ wsL_law0_r5, w ∈ lw_tbl := fun w h => (goodIn_r wsL_law0_r5 [33, 414, 415, 416, 417, 418, 419, 420, 421, 46, 489, 47, 148, 505, 506, 507, 508, 147, 296, 297, 884, 885, 886, 887] (by decide +kernel) (by decide +kernel) w h).1
set_option maxRecDepth 20000 in
theorem wsLin_5 : ∀ w ∈ wsL_law0_r6, w ∈ lw_tbl := fun w h => (goodIn_r wsL_law0_r6 [888, 823, 889, 890, 891, 892, 894, 15, 895, 821, 880, 881, 882, 883, 207, 208, 209, 210, 896, 897, 898, 899, 211, 212] (by decide +kernel) (by decide +kernel) w h).1
set_option maxRecDepth 20000 in
theorem wsLin_6 : ∀ w ∈ wsL_law0_r7, w ∈ lw_tbl := fun w h => (goodIn_r wsL_law0_r7 [213, 214, 215, 216, 217, 218, 220, 221, 222, 223, 224, 900, 901, 902, 903, 904, 906, 16, 907, 837, 908, 909, 910, 911] (by decide +kernel) (by decide +kernel) w h).1
set_option maxRecDepth 20000 in
theorem wsLin_7 : ∀ w ∈ wsL_law0_r8, w ∈ lw_tbl := fun w h => (goodIn_r wsL_law0_r8 [913, 17, 914, 915, 917, 18, 918, 923, 924, 919, 921, 19, 922, 510, 511, 512, 513, 514, 515, 516, 89, 97, 95, 269] (by decide +kernel) (by decide +kernel) w h).1
set_option maxRecDepth 20000 in
theorem wsLin_8 : ∀ w ∈ wsL_law0_r9, w ∈ lw_tbl := fun w h => (goodIn_r wsL_law0_r9 [270, 271, 272, 517, 518, 519, 520, 356, 358, 360, 2, 361, 521, 292, 293, 294, 522, 523, 524, 525, 526, 527, 528, 529] (by decide +kernel) (by decide +kernel) w h).1
set_option maxRecDepth 20000 in
theorem wsLin_9 : ∀ w ∈ wsL_law0_r10, w ∈ lw_tbl := fun w h => (goodIn_r wsL_law0_r10 [925, 926, 927, 928, 929, 930, 931, 932, 933, 934, 935, 936, 937, 938, 939, 940, 941, 942, 943, 944, 945, 946, 947, 948] (by decide +kernel) (by decide +kernel) w h).1
set_option maxRecDepth 20000 in
theorem wsLin_10 : ∀ w ∈ wsL_law0_r11, w ∈ lw_tbl := fun w h => (goodIn_r wsL_law0_r11 [949, 950, 531, 532, 533, 534, 535, 536, 537, 539, 300, 301, 302, 951, 952, 953, 954, 540, 541, 542, 543, 544, 545, 546] (by decide +kernel) (by decide +kernel) w h).1
set_option maxRecDepth 20000 in
theorem wsLin_11 : ∀ w ∈ wsL_law0_r12, w ∈ lw_tbl := fun w h => (goodIn_r wsL_law0_r12 [547, 552, 48, 548, 549, 550, 551, 94, 329, 283, 284, 285, 955, 956, 957, 958, 962, 959, 960, 961, 963, 964, 965, 966] (by decide +kernel) (by decide +kernel) w h).1
set_option maxRecDepth 20000 in
theorem wsLin_12 : ∀ w ∈ wsL_law0_r13, w ∈ lw_tbl := fun w h => (goodIn_r wsL_law0_r13 [967, 968, 569, 570, 571, 572, 573, 574, 575, 969, 970, 971, 972, 576, 577, 578, 579, 580, 581, 582, 583, 584, 585, 588] (by decide +kernel) (by decide +kernel) w h).1
set_option maxRecDepth 20000 in
theorem wsLin_13 : ∀ w ∈ wsL_law0_r14, w ∈ lw_tbl := fun w h => (goodIn_r wsL_law0_r14 [973, 974, 975, 976, 981, 977, 978, 979, 980, 589, 590, 591, 592, 593, 594, 595, 596, 322, 323, 324, 982, 983, 984, 985] (by decide +kernel) (by decide +kernel) w h).1
set_option maxRecDepth 20000 in
theorem wsLin_14 : ∀ w ∈ wsL_law0_r15, w ∈ lw_tbl := fun w h => (goodIn_r wsL_law0_r15 [597, 598, 599, 600, 601, 602, 603, 604, 605, 606, 608, 234, 235, 236, 176, 237, 238, 239, 240, 242, 243, 244, 245, 96] (by decide +kernel) (by decide +kernel) w h).1
set_option maxRecDepth 20000 in
theorem wsLin_15 : ∀ w ∈ wsL_law0_r16, w ∈ lw_tbl := fun w h => (goodIn_r wsL_law0_r16 [246, 247, 248, 249, 251, 252, 253, 254, 255, 256, 258, 257, 49, 609, 610, 611, 612, 411, 614, 615, 616, 617, 362, 364] (by decide +kernel) (by decide +kernel) w h).1
set_option maxRecDepth 20000 in
theorem wsLin_16 : ∀ w ∈ wsL_law0_r17, w ∈ lw_tbl := fun w h => (goodIn_r wsL_law0_r17 [3, 365, 382, 366, 367, 368, 369, 370, 371, 372, 310, 311, 407, 409, 7, 410, 383, 385, 5, 386, 387, 388, 389, 378] (by decide +kernel) (by decide +kernel) w h).1
set_option maxRecDepth 20000 in
theorem wsLin_17 : ∀ w ∈ wsL_law0_r18, w ∈ lw_tbl := fun w h => (goodIn_r wsL_law0_r18 [380, 4, 381, 618, 619, 620, 621, 623, 261, 262, 263, 177, 264, 986, 987, 988, 989, 990, 991, 992, 993, 994, 995, 996] (by decide +kernel) (by decide +kernel) w h).1
set_option maxRecDepth 20000 in
theorem wsLin_18 : ∀ w ∈ wsL_law0_r19, w ∈ lw_tbl := fun w h => (goodIn_r wsL_law0_r19 [997, 999, 20, 1000, 1001, 1003, 21, 1004, 827, 225, 226, 227, 228, 229, 230, 231, 232, 233, 260, 265, 266, 267, 268, 1005] (by decide +kernel) (by decide +kernel) w h).1
set_option maxRecDepth 20000 in
theorem wsLin_19 : ∀ w ∈ wsL_law0_r20, w ∈ lw_tbl := fun w h => (goodIn_r wsL_law0_r20 [1006, 1007, 1008, 624, 625, 626, 627, 628, 629, 630, 334, 335, 336, 337, 338, 339, 340, 341, 342, 632, 633, 634, 635, 636] (by decide +kernel) (by decide +kernel) w h).1
set_option maxRecDepth 20000 in
theorem wsLin_20 : ∀ w ∈ wsL_law0_r21, w ∈ lw_tbl := fun w h => (goodIn_r wsL_law0_r21 [637, 1009, 1010, 1011, 1012, 639, 640, 641, 642, 643, 644, 645, 646, 647, 648, 649, 650, 651, 653, 9, 654, 655, 656, 658] (by decide +kernel) (by decide +kernel) w h).1
set_option maxRecDepth 20000 in
theorem wsLin_21 : ∀ w ∈ wsL_law0_r22, w ∈ lw_tbl := fun w h => (goodIn_r wsL_law0_r22 [10, 659, 660, 661, 662, 663, 664, 665, 667, 668, 669, 1013, 1014, 1015, 1016, 1017, 1019, 22, 1020, 1021, 1023, 23, 1024, 1025] (by decide +kernel) (by decide +kernel) w h).1
set_option maxRecDepth 20000 in
theorem wsLin_22 : ∀ w ∈ wsL_law0_r23, w ∈ lw_tbl := fun w h => (goodIn_r wsL_law0_r23 [1027, 24, 1028, 1029, 1030, 1031, 1032, 1033, 1034, 1035, 1036, 1037, 1038, 1039, 1040, 671, 672, 673, 674, 675, 676, 677, 678, 679] (by decide +kernel) (by decide +kernel) w h).1
set_option maxRecDepth 20000 in
theorem wsLin_23 : ∀ w ∈ wsL_law0_r24, w ∈ lw_tbl := fun w h => (goodIn_r wsL_law0_r24 [680, 681, 682, 1041, 1042, 1043, 1044, 1045, 1046, 1047, 683, 684, 685, 686, 687, 688, 689, 690, 692, 11, 693, 120, 122, 317] (by decide +kernel) (by decide +kernel) w h).1
set_option maxRecDepth 20000 in
theorem wsLin_24 : ∀ w ∈ wsL_law0_r25, w ∈ lw_tbl := fun w h => (goodIn_r wsL_law0_r25 [318, 319, 320, 125, 123, 121, 93, 88, 119, 287, 288, 289, 290, 312, 291, 299, 303, 304, 305, 306, 307, 308, 309, 321] (by decide +kernel) (by decide +kernel) w h).1
set_option maxRecDepth 20000 in
theorem wsLin_25 : ∀ w ∈ wsL_law0_r26, w ∈ lw_tbl := fun w h => (goodIn_r wsL_law0_r26 [325, 327, 0, 328, 282, 694, 695, 696, 697, 1048, 1049, 1050, 1051, 1052, 1054, 25, 1055, 836, 834, 1056, 1058, 26, 1059, 835] (by decide +kernel) (by decide +kernel) w h).1
set_option maxRecDepth 20000 in
theorem wsLin_26 : ∀ w ∈ wsL_law0_r27, w ∈ lw_tbl := fun w h => (goodIn_r wsL_law0_r27 [699, 700, 701, 702, 703, 704, 705, 706, 707, 708, 344, 345, 346, 347, 348, 350, 1, 351, 352, 353, 354, 355, 357, 374] (by decide +kernel) (by decide +kernel) w h).1
set_option maxRecDepth 20000 in
theorem wsLin_27 : ∀ w ∈ wsL_law0_r28, w ∈ lw_tbl := fun w h => (goodIn_r wsL_law0_r28 [375, 376, 377, 1060, 1061, 1062, 1063, 1064, 1065, 1066, 1067, 1068, 1069, 1070, 1072, 27, 1073, 1074, 1076, 28, 1077, 711, 712, 713] (by decide +kernel) (by decide +kernel) w h).1
set_option maxRecDepth 20000 in
theorem wsLin_28 : ∀ w ∈ wsL_law0_r29, w ∈ lw_tbl := fun w h => (goodIn_r wsL_law0_r29 [714, 715, 716, 717, 178, 718, 719, 720, 721, 722, 723, 724, 725, 727, 728, 729, 730, 1078, 1079, 1080, 1081, 731, 732, 733] (by decide +kernel) (by decide +kernel) w h).1
set_option maxRecDepth 20000 in
theorem wsLin_29 : ∀ w ∈ wsL_law0_r30, w ∈ lw_tbl := fun w h => (goodIn_r wsL_law0_r30 [734, 735, 736, 737, 124, 126, 1082, 1083, 1084, 1085, 738, 739, 740, 741, 742, 743, 744, 746, 747, 748, 749, 750, 752, 12] (by decide +kernel) (by decide +kernel) w h).1
set_option maxRecDepth 20000 in
theorem wsLin_30 : ∀ w ∈ wsL_law0_r31, w ∈ lw_tbl := fun w h => (goodIn_r wsL_law0_r31 [753, 1086, 1087, 1088, 1089, 754, 755, 756, 757, 758, 759, 760, 394, 1090, 1091, 1092, 1093, 274, 275, 276, 277, 278, 279, 280] (by decide +kernel) (by decide +kernel) w h).1
set_option maxRecDepth 20000 in
theorem wsLin_31 : ∀ w ∈ wsL_law0_r32, w ∈ lw_tbl := fun w h => (goodIn_r wsL_law0_r32 [281, 1094, 1095, 1096, 1097, 838, 1098, 1100, 29, 1101, 839, 313, 314, 315, 316, 1102, 1103, 1104, 1105, 330, 331, 332, 333, 390] (by decide +kernel) (by decide +kernel) w h).1
set_option maxRecDepth 20000 in
theorem wsLin_32 : ∀ w ∈ wsL_law0_r33, w ∈ lw_tbl := fun w h => (goodIn_r wsL_law0_r33 [392, 6, 393, 1106, 1107, 1108, 1109, 395, 396, 397, 398, 399, 400, 401, 402, 403, 404, 405, 406, 1110, 1111, 1112, 1113, 761] (by decide +kernel) (by decide +kernel) w h).1
set_option maxRecDepth 20000 in
theorem wsLin_33 : ∀ w ∈ wsL_law0_r34, w ∈ lw_tbl := fun w h => (goodIn_r wsL_law0_r34 [762, 763, 764, 765, 766, 767, 772, 769, 770, 771, 774, 776, 13, 777, 1114, 1115, 1116, 1117, 1118, 1119, 1121, 30, 1122, 778] (by decide +kernel) (by decide +kernel) w h).1
set_option maxRecDepth 20000 in
theorem wsLin_34 : ∀ w ∈ wsL_law0_r35, w ∈ lw_tbl := fun w h => (goodIn_r wsL_law0_r35 [779, 780, 781, 782, 783, 784, 786, 787, 788, 790, 14, 791, 792, 1123, 1124, 1125, 1126, 1127, 1128, 1129, 1131, 31, 1132, 1137] (by decide +kernel) (by decide +kernel) w h).1
set_option maxRecDepth 20000 in
theorem wsLin_35 : ∀ w ∈ wsL_law0_r36, w ∈ lw_tbl := fun w h => (goodIn_r wsL_law0_r36 [1133, 1135, 32, 1136, 793, 794, 795, 796, 797, 798, 799, 801, 1138, 1139, 1140, 1141, 802, 803, 804, 805, 806, 807, 808, 809] (by decide +kernel) (by decide +kernel) w h).1
set_option maxRecDepth 20000 in
theorem wsLin_36 : ∀ w ∈ wsL_law0_r37, w ∈ lw_tbl := fun w h => (goodIn_r wsL_law0_r37 [811, 812, 813, 814, 1142, 1143, 1144, 1145] (by decide +kernel) (by decide +kernel) w h).1
set_option maxRecDepth 20000 in
theorem wsLin_37 : ∀ w ∈ wsX60, w ∈ lw_tbl := fun w h => (goodIn_r wsX60 [194, 196, 198, 200, 202, 204] (by decide +kernel) (by decide +kernel) w h).1
set_option maxRecDepth 20000 in
theorem wsLin_38 : ∀ w ∈ wsX70, w ∈ lw_tbl := fun w h => (goodIn_r wsX70 [840, 842, 844, 846, 848, 850, 852, 854, 856, 858, 860, 862, 864, 866, 868, 870, 872, 874, 876] (by decide +kernel) (by decide +kernel) w h).1
set_option maxRecDepth 20000 in
theorem wsLin_39 : ∀ w ∈ wsX40, w ∈ lw_tbl := fun w h => (goodIn_r wsX40 [98, 100, 102, 104, 106, 108] (by decide +kernel) (by decide +kernel) w h).1
set_option maxRecDepth 20000 in
theorem wsLin_40 : ∀ w ∈ wsX20, w ∈ lw_tbl := fun w h => (goodIn_r wsX20 [127, 129, 131, 133, 135, 137] (by decide +kernel) (by decide +kernel) w h).1
set_option maxRecDepth 20000 in
theorem wsLin_41 : ∀ w ∈ wsX50, w ∈ lw_tbl := fun w h => (goodIn_r wsX50 [149, 151] (by decide +kernel) (by decide +kernel) w h).1
set_option maxRecDepth 20000 in
theorem wsLin_42 : ∀ w ∈ wsX10, w ∈ lw_tbl := fun w h => (goodIn_r wsX10 [179, 181, 183] (by decide +kernel) (by decide +kernel) w h).1
set_option maxRecDepth 20000 in
theorem wsLin_43 : ∀ w ∈ wsX30, w ∈ lw_tbl := fun w h => (goodIn_r wsX30 [172] (by decide +kernel) (by decide +kernel) w h).1
set_option maxRecDepth 20000 in
theorem wsLin_44 : ∀ w ∈ wsX00, w ∈ lw_tbl := fun w h => (goodIn_r wsX00 [75, 77, 79, 81, 83] (by decide +kernel) (by decide +kernel) w h).1
theorem wsL_law_in0 : ∀ w ∈ wsL_law0, w ∈ lw_tbl := (List.forall_mem_append.mpr ⟨(List.forall_mem_append.mpr ⟨(List.forall_mem_append.mpr ⟨(List.forall_mem_append.mpr ⟨(List.forall_mem_append.mpr ⟨(List.forall_mem_append.mpr ⟨(List.forall_mem_append.mpr ⟨(List.forall_mem_append.mpr ⟨(List.forall_mem_append.mpr ⟨(List.forall_mem_append.mpr ⟨wsLin_0, (List.forall_mem_append.mpr ⟨wsLin_1, (List.forall_mem_append.mpr ⟨wsLin_2, (List.forall_mem_append.mpr ⟨wsLin_3, (List.forall_mem_append.mpr ⟨wsLin_4, (List.forall_mem_append.mpr ⟨wsLin_5, (List.forall_mem_append.mpr ⟨wsLin_6, (List.forall_mem_append.mpr ⟨wsLin_7, (List.forall_mem_append.mpr ⟨wsLin_8, (List.forall_mem_append.mpr ⟨wsLin_9, (List.forall_mem_append.mpr ⟨wsLin_10, (List.forall_mem_append.mpr ⟨wsLin_11, (List.forall_mem_append.mpr ⟨wsLin_12, (List.forall_mem_append.mpr ⟨wsLin_13, (List.forall_mem_append.mpr ⟨wsLin_14, (List.forall_mem_append.mpr ⟨wsLin_15, (List.forall_mem_append.mpr ⟨wsLin_16, (List.forall_mem_append.mpr ⟨wsLin_17, (List.forall_mem_append.mpr ⟨wsLin_18, (List.forall_mem_append.mpr ⟨wsLin_19, (List.forall_mem_append.mpr ⟨wsLin_20, (List.forall_mem_append.mpr ⟨wsLin_21, (List.forall_mem_append.mpr ⟨wsLin_22, (List.forall_mem_append.mpr ⟨wsLin_23, (List.forall_mem_append.mpr ⟨wsLin_24, (List.forall_mem_append.mpr ⟨wsLin_25, (List.forall_mem_append.mpr ⟨wsLin_26, (List.forall_mem_append.mpr ⟨wsLin_27, (List.forall_mem_append.mpr ⟨wsLin_28, (List.forall_mem_append.mpr ⟨wsLin_29, (List.forall_mem_append.mpr ⟨wsLin_30, (List.forall_mem_append.mpr ⟨wsLin_31, (List.forall_mem_append.mpr ⟨wsLin_32, (List.forall_mem_append.mpr ⟨wsLin_33, (List.forall_mem_append.mpr ⟨wsLin_34, (List.forall_mem_append.mpr ⟨wsLin_35, wsLin_36⟩)⟩)⟩)⟩)⟩)⟩)⟩)⟩)⟩)⟩)⟩)⟩)⟩)⟩)⟩)⟩)⟩)⟩)⟩)⟩)⟩)⟩)⟩)⟩)⟩)⟩)⟩)⟩)⟩)⟩)⟩)⟩)⟩)⟩)⟩)⟩), wsLin_37⟩), wsLin_38⟩), wsLin_39⟩), wsLin_40⟩), wsLin_41⟩), wsLin_42⟩), wsLin_43⟩), wsLin_44⟩), (fun w h => nomatch h)⟩)
theorem wsL_law_x0 : ∀ w ∈ (vx_atS RX6 53 "java/lang/IllegalArgumentException" ["java/lang/RuntimeException", "java/lang/Exception"]).filter goodWord, w ∈ lw_tbl := by decide +kernel
theorem wsL_law_x1 : ∀ w ∈ (vx_atS RX6 64 "java/lang/IllegalStateException" ["java/lang/RuntimeException", "java/lang/Exception"]).filter goodWord, w ∈ lw_tbl := by decide +kernel
theorem wsL_law_x2 : ∀ w ∈ (vx_atS RX6 114 "java/lang/IndexOutOfBoundsException" ["java/lang/RuntimeException", "java/lang/Exception"]).filter goodWord, w ∈ lw_tbl := by decide +kernel
theorem wsL_law_in : ∀ w ∈ wsL_law, w ∈ lw_tbl := fun w h => (List.mem_append.mp h).elim (fun h => (List.mem_append.mp h).elim (fun h => (List.mem_append.mp h).elim (fun h => wsL_law_in0 w h) (fun h => wsL_law_x0 w h)) (fun h => wsL_law_x1 w h)) (fun h => wsL_law_x2 w h)
