/-! ===== the law's words are the tables' ===== -/
theorem mem_r {big : List Cond} (ws : List Cond) (ps : List Nat) (hp : ws = ps.filterMap (fun i => big[i]?)) : ∀ w ∈ ws, w ∈ big := by
  intro w hw
  rw [hp] at hw
  obtain ⟨i, -, hi⟩ := List.mem_filterMap.mp hw
  exact List.mem_of_getElem? hi
set_option maxRecDepth 100000 in
theorem wl_1 : ∀ w ∈ wsL_law0_r1, w ∈ lw_tbl := mem_r wsL_law0_r1 [75, 76, 46, 729, 730, 53, 1157, 77, 78, 79, 80, 81, 82, 83, 84, 47, 155, 98, 99, 48, 156, 113, 114, 49] (by decide +kernel)
set_option maxRecDepth 100000 in
theorem wl_2 : ∀ w ∈ wsL_law0_r2, w ∈ lw_tbl := mem_r wsL_law0_r2 [157, 129, 130, 52, 158, 159, 86, 87, 88, 89, 91, 101, 102, 103, 104, 106, 116, 117, 118, 119, 120, 122, 131, 132] (by decide +kernel)
set_option maxRecDepth 100000 in
theorem wl_3 : ∀ w ∈ wsL_law0_r3, w ∈ lw_tbl := mem_r wsL_law0_r3 [133, 141, 143, 134, 135, 51, 136, 145, 137, 138, 50, 139, 140, 731, 732, 733, 734, 737, 738, 739, 735, 741, 685, 744] (by decide +kernel)
set_option maxRecDepth 100000 in
theorem wl_4 : ∀ w ∈ wsL_law0_r4, w ∈ lw_tbl := mem_r wsL_law0_r4 [746, 356, 357, 45, 358, 359, 360, 361, 362, 363, 364, 57, 90, 92, 780, 781, 782, 783, 736, 784, 785, 786, 787, 789] (by decide +kernel)
set_option maxRecDepth 100000 in
theorem wl_5 : ∀ w ∈ wsL_law0_r5, w ∈ lw_tbl := mem_r wsL_law0_r5 [19, 790, 776, 777, 778, 779, 380, 381, 382, 383, 384, 385, 386, 387, 388, 105, 107, 791, 792, 793, 794, 795, 796, 740] (by decide +kernel)
set_option maxRecDepth 100000 in
theorem wl_6 : ∀ w ∈ wsL_law0_r6, w ∈ lw_tbl := mem_r wsL_law0_r6 [390, 391, 392, 393, 394, 395, 396, 397, 398, 399, 121, 123, 797, 798, 799, 800, 801, 802, 803, 742, 401, 402, 403, 404] (by decide +kernel)
set_option maxRecDepth 100000 in
theorem wl_7 : ∀ w ∈ wsL_law0_r7, w ∈ lw_tbl := mem_r wsL_law0_r7 [405, 406, 407, 408, 409, 410, 412, 413, 414, 415, 804, 805, 806, 807, 808, 809, 810, 811, 813, 20, 814, 416, 417, 418] (by decide +kernel)
set_option maxRecDepth 100000 in
theorem wl_8 : ∀ w ∈ wsL_law0_r8, w ∈ lw_tbl := mem_r wsL_law0_r8 [419, 420, 421, 422, 424, 425, 426, 427, 428, 223, 224, 225, 226, 251, 252, 253, 815, 816, 817, 818, 819, 821, 21, 822] (by decide +kernel)
set_option maxRecDepth 100000 in
theorem wl_9 : ∀ w ∈ wsL_law0_r9, w ∈ lw_tbl := mem_r wsL_law0_r9 [823, 825, 22, 826, 827, 829, 23, 830, 430, 431, 432, 433, 434, 435, 436, 437, 258, 58, 438, 440, 11, 441, 442, 443] (by decide +kernel)
set_option maxRecDepth 100000 in
theorem wl_10 : ∀ w ∈ wsL_law0_r10, w ∈ lw_tbl := mem_r wsL_law0_r10 [444, 445, 446, 447, 448, 449, 450, 451, 452, 453, 454, 455, 456, 458, 12, 459, 227, 228, 229, 230, 231, 232, 233, 234] (by decide +kernel)
set_option maxRecDepth 100000 in
theorem wl_11 : ∀ w ∈ wsL_law0_r11, w ∈ lw_tbl := mem_r wsL_law0_r11 [831, 832, 833, 834, 835, 837, 24, 838, 839, 841, 25, 842, 843, 845, 26, 846, 847, 849, 27, 850, 851, 853, 28, 854] (by decide +kernel)
set_option maxRecDepth 100000 in
theorem wl_12 : ∀ w ∈ wsL_law0_r12, w ∈ lw_tbl := mem_r wsL_law0_r12 [855, 856, 348, 59, 349, 857, 859, 29, 860, 861, 863, 30, 864, 461, 462, 463, 464, 465, 466, 467, 468, 469, 470, 471] (by decide +kernel)
set_option maxRecDepth 100000 in
theorem wl_13 : ∀ w ∈ wsL_law0_r13, w ∈ lw_tbl := mem_r wsL_law0_r13 [472, 473, 865, 866, 867, 868, 869, 870, 61, 871, 872, 873, 874, 875, 60, 876, 877, 878, 325, 887, 888, 880, 881, 63] (by decide +kernel)
set_option maxRecDepth 100000 in
theorem wl_14 : ∀ w ∈ wsL_law0_r14, w ∈ lw_tbl := mem_r wsL_law0_r14 [882, 883, 884, 885, 886, 899, 900, 901, 902, 903, 1159, 898, 904, 905, 889, 906, 907, 65, 908, 909, 1160, 0, 911, 912] (by decide +kernel)
set_option maxRecDepth 100000 in
theorem wl_15 : ∀ w ∈ wsL_law0_r15, w ∈ lw_tbl := mem_r wsL_law0_r15 [913, 1161, 1, 915, 916, 918, 917, 593, 66, 594, 595, 596, 597, 598, 599, 919, 920, 67, 921, 922, 923, 924, 925, 926] (by decide +kernel)
set_option maxRecDepth 100000 in
theorem wl_16 : ∀ w ∈ wsL_law0_r16, w ∈ lw_tbl := mem_r wsL_law0_r16 [928, 625, 501, 502, 626, 628, 627, 68, 929, 931, 932, 930, 933, 934, 935, 936, 937, 939, 941, 942, 943, 965, 944, 945] (by decide +kernel)
set_option maxRecDepth 100000 in
theorem wl_17 : ∀ w ∈ wsL_law0_r17, w ∈ lw_tbl := mem_r wsL_law0_r17 [946, 947, 948, 949, 950, 951, 62, 952, 953, 955, 956, 69, 957, 958, 959, 960, 961, 971, 962, 963, 964, 967, 969, 972] (by decide +kernel)
set_option maxRecDepth 100000 in
theorem wl_18 : ∀ w ∈ wsL_law0_r18, w ∈ lw_tbl := mem_r wsL_law0_r18 [973, 974, 975, 976, 1162, 977, 978, 979, 980, 70, 981, 982, 1163, 2, 984, 985, 986, 987, 988, 989, 990, 991, 992, 993] (by decide +kernel)
set_option maxRecDepth 100000 in
theorem wl_19 : ∀ w ∈ wsL_law0_r19, w ∈ lw_tbl := mem_r wsL_law0_r19 [994, 995, 996, 997, 998, 999, 1000, 1001, 1002, 1003, 1004, 1005, 1006, 1007, 1008, 1009, 1010, 208, 209, 1011, 1012, 1013, 1014, 1015] (by decide +kernel)
set_option maxRecDepth 100000 in
theorem wl_20 : ∀ w ∈ wsL_law0_r20, w ∈ lw_tbl := mem_r wsL_law0_r20 [1164, 1016, 1017, 1018, 1019, 1020, 1021, 1022, 1165, 1023, 1024, 1025, 1026, 1027, 1028, 1029, 474, 475, 476, 477, 478, 479, 480, 1030] (by decide +kernel)
set_option maxRecDepth 100000 in
theorem wl_21 : ∀ w ∈ wsL_law0_r21, w ∈ lw_tbl := mem_r wsL_law0_r21 [1031, 1032, 1033, 482, 483, 484, 485, 486, 487, 488, 219, 221, 5, 222, 235, 236, 237, 238, 239, 240, 241, 1034, 1035, 1036] (by decide +kernel)
set_option maxRecDepth 100000 in
theorem wl_22 : ∀ w ∈ wsL_law0_r22, w ∈ lw_tbl := mem_r wsL_law0_r22 [1037, 1038, 1040, 31, 1041, 1042, 1044, 32, 1045, 1046, 1048, 33, 1049, 1050, 489, 490, 491, 492, 493, 494, 495, 347, 500, 496] (by decide +kernel)
set_option maxRecDepth 100000 in
theorem wl_23 : ∀ w ∈ wsL_law0_r23, w ∈ lw_tbl := mem_r wsL_law0_r23 [498, 13, 499, 1051, 1052, 1053, 1054, 1055, 1057, 34, 1058, 503, 504, 505, 506, 507, 508, 509, 510, 160, 161, 511, 512, 513] (by decide +kernel)
set_option maxRecDepth 100000 in
theorem wl_24 : ∀ w ∈ wsL_law0_r24, w ∈ lw_tbl := mem_r wsL_law0_r24 [514, 515, 516, 517, 518, 519, 520, 521, 522, 523, 1059, 1060, 1061, 1062, 1063, 747, 748, 524, 525, 526, 527, 528, 529, 530] (by decide +kernel)
set_option maxRecDepth 100000 in
theorem wl_25 : ∀ w ∈ wsL_law0_r25, w ∈ lw_tbl := mem_r wsL_law0_r25 [531, 534, 71, 246, 550, 72, 192, 193, 194, 195, 144, 551, 552, 553, 554, 555, 557, 559, 561, 563, 576, 577, 578, 579] (by decide +kernel)
set_option maxRecDepth 100000 in
theorem wl_26 : ∀ w ∈ wsL_law0_r26, w ∈ lw_tbl := mem_r wsL_law0_r26 [146, 147, 580, 582, 14, 583, 584, 586, 15, 587, 588, 590, 16, 591, 629, 630, 592, 600, 601, 602, 603, 1181, 604, 618] (by decide +kernel)
set_option maxRecDepth 100000 in
theorem wl_27 : ∀ w ∈ wsL_law0_r27, w ∈ lw_tbl := mem_r wsL_law0_r27 [619, 620, 621, 622, 624, 1064, 1065, 1066, 1067, 743, 1068, 631, 632, 633, 634, 635, 636, 637, 246, 200, 201, 202, 203, 204] (by decide +kernel)
set_option maxRecDepth 100000 in
theorem wl_28 : ∀ w ∈ wsL_law0_r28, w ∈ lw_tbl := mem_r wsL_law0_r28 [205, 73, 206, 207, 210, 211, 212, 213, 247, 249, 7, 250, 556, 558, 560, 562, 564, 1069, 1070, 1071, 1072, 1073, 1075, 35] (by decide +kernel)
set_option maxRecDepth 100000 in
theorem wl_29 : ∀ w ∈ wsL_law0_r29, w ∈ lw_tbl := mem_r wsL_law0_r29 [1076, 1077, 1079, 36, 1080, 1081, 1083, 37, 1084, 639, 640, 641, 642, 643, 644, 645, 646, 648, 17, 649, 1085, 1086, 1087, 1088] (by decide +kernel)
set_option maxRecDepth 100000 in
theorem wl_30 : ∀ w ∈ wsL_law0_r30, w ∈ lw_tbl := mem_r wsL_law0_r30 [650, 651, 652, 653, 654, 655, 656, 1089, 1090, 1091, 1092, 657, 658, 659, 660, 661, 662, 663, 214, 665, 74, 666, 667, 668] (by decide +kernel)
set_option maxRecDepth 100000 in
theorem wl_31 : ∀ w ∈ wsL_law0_r31, w ∈ lw_tbl := mem_r wsL_law0_r31 [669, 672, 670, 686, 688, 18, 689, 674, 671, 675, 690, 691, 692, 693, 673, 1093, 1094, 1095, 1096, 745, 1097, 1099, 38, 1100] (by decide +kernel)
set_option maxRecDepth 100000 in
theorem wl_32 : ∀ w ∈ wsL_law0_r32, w ∈ lw_tbl := mem_r wsL_law0_r32 [1101, 1103, 39, 1104, 694, 695, 696, 697, 698, 699, 700, 214, 335, 337, 9, 338, 242, 244, 6, 245, 254, 255, 256, 257] (by decide +kernel)
set_option maxRecDepth 100000 in
theorem wl_33 : ∀ w ∈ wsL_law0_r33, w ∈ lw_tbl := mem_r wsL_law0_r33 [1105, 1106, 1107, 1108, 1109, 1111, 40, 1112, 1113, 1115, 41, 1116, 1117, 1119, 42, 1120, 1121, 345, 346, 701, 702, 703, 704, 332] (by decide +kernel)
set_option maxRecDepth 100000 in
theorem wl_34 : ∀ w ∈ wsL_law0_r34, w ∈ lw_tbl := mem_r wsL_law0_r34 [333, 334, 215, 217, 4, 218, 340, 342, 10, 343, 344, 1122, 1123, 1124, 1125, 1126, 1128, 43, 1129, 705, 706, 707, 708, 709] (by decide +kernel)
set_option maxRecDepth 100000 in
theorem wl_35 : ∀ w ∈ wsL_law0_r35, w ∈ lw_tbl := mem_r wsL_law0_r35 [710, 711, 1130, 1131, 1132, 1133, 713, 714, 715, 716, 189, 190, 191, 196, 198, 3, 199, 1134, 1135, 1136, 1137, 1138, 1140, 44] (by decide +kernel)
set_option maxRecDepth 100000 in
theorem wl_36 : ∀ w ∈ wsL_law0_r36, w ∈ lw_tbl := mem_r wsL_law0_r36 [1141, 717, 718, 719, 720, 721, 722, 723, 725, 726, 727, 728, 1142, 1143, 1144, 1145, 177, 178, 179, 180, 181, 1146, 1147, 1148] (by decide +kernel)
set_option maxRecDepth 100000 in
theorem wl_37 : ∀ w ∈ wsL_law0_r37, w ∈ lw_tbl := mem_r wsL_law0_r37 [1149, 1150, 182, 183, 184, 185, 186, 187, 188, 326, 327, 328, 329, 330, 331, 351, 352, 353, 354, 355, 1151, 1152, 1153, 1154] (by decide +kernel)
set_option maxRecDepth 100000 in
theorem wl_38 : ∀ w ∈ wsL_law0_r38, w ∈ lw_tbl := mem_r wsL_law0_r38 [1155, 1156] (by decide +kernel)
set_option maxRecDepth 100000 in
theorem wi_X5 : ∀ w ∈ wsX50, w ∈ lw_tbl := mem_r wsX50 [162, 164, 166, 168, 170, 172, 174] (by decide +kernel)
set_option maxRecDepth 100000 in
theorem wi_X6 : ∀ w ∈ wsX60, w ∈ lw_tbl := mem_r wsX60 [749, 751, 753, 755, 757, 759, 761, 763, 765, 767, 769, 771, 773] (by decide +kernel)
set_option maxRecDepth 100000 in
theorem wi_X4 : ∀ w ∈ wsX40, w ∈ lw_tbl := mem_r wsX40 [93, 95] (by decide +kernel)
set_option maxRecDepth 100000 in
theorem wi_X1 : ∀ w ∈ wsX10, w ∈ lw_tbl := mem_r wsX10 [108, 110] (by decide +kernel)
set_option maxRecDepth 100000 in
theorem wi_X2 : ∀ w ∈ wsX20, w ∈ lw_tbl := mem_r wsX20 [124, 126] (by decide +kernel)
set_option maxRecDepth 100000 in
theorem wi_Jx4a65c : ∀ w ∈ wsJx4a65c0, w ∈ lw_tbl := mem_r wsJx4a65c0 [152, 148, 150] (by decide +kernel)
set_option maxRecDepth 100000 in
theorem wi_J4 : ∀ w ∈ wsJ40, w ∈ lw_tbl := mem_r wsJ40 [890, 892, 894, 896] (by decide +kernel)
set_option maxRecDepth 100000 in
theorem wi_X0 : ∀ w ∈ wsX00, w ∈ lw_tbl := mem_r wsX00 [565, 567, 569, 571, 573] (by decide +kernel)
set_option maxRecDepth 100000 in
theorem wi_X3 : ∀ w ∈ wsX30, w ∈ lw_tbl := mem_r wsX30 [676, 678, 680, 682] (by decide +kernel)
set_option maxRecDepth 100000 in
theorem wx_0 : ∀ w ∈ (vx_atS RX5 44 "java/lang/IllegalArgumentException" ["java/lang/RuntimeException", "java/lang/Exception"]).filter goodWord, w ∈ lw_tbl := by decide +kernel
set_option maxRecDepth 100000 in
theorem wx_1 : ∀ w ∈ (vx_atS RX5 118 "java/lang/IndexOutOfBoundsException" ["java/lang/RuntimeException", "java/lang/Exception"]).filter goodWord, w ∈ lw_tbl := by decide +kernel
set_option maxRecDepth 100000 in
theorem wx_2 : ∀ w ∈ (vx_atS RX5 172 "java/lang/IllegalStateException" ["java/lang/RuntimeException", "java/lang/Exception"]).filter goodWord, w ∈ lw_tbl := by decide +kernel
theorem wl_all : ∀ w ∈ wsL_law0, w ∈ lw_tbl := by
  unfold wsL_law0
  exact List.forall_mem_append.mpr ⟨(List.forall_mem_append.mpr ⟨(List.forall_mem_append.mpr ⟨(List.forall_mem_append.mpr ⟨(List.forall_mem_append.mpr ⟨(List.forall_mem_append.mpr ⟨(List.forall_mem_append.mpr ⟨(List.forall_mem_append.mpr ⟨(List.forall_mem_append.mpr ⟨(List.forall_mem_append.mpr ⟨(List.forall_mem_append.mpr ⟨wl_1, List.forall_mem_append.mpr ⟨wl_2, List.forall_mem_append.mpr ⟨wl_3, List.forall_mem_append.mpr ⟨wl_4, List.forall_mem_append.mpr ⟨wl_5, List.forall_mem_append.mpr ⟨wl_6, List.forall_mem_append.mpr ⟨wl_7, List.forall_mem_append.mpr ⟨wl_8, List.forall_mem_append.mpr ⟨wl_9, List.forall_mem_append.mpr ⟨wl_10, List.forall_mem_append.mpr ⟨wl_11, List.forall_mem_append.mpr ⟨wl_12, List.forall_mem_append.mpr ⟨wl_13, List.forall_mem_append.mpr ⟨wl_14, List.forall_mem_append.mpr ⟨wl_15, List.forall_mem_append.mpr ⟨wl_16, List.forall_mem_append.mpr ⟨wl_17, List.forall_mem_append.mpr ⟨wl_18, List.forall_mem_append.mpr ⟨wl_19, List.forall_mem_append.mpr ⟨wl_20, List.forall_mem_append.mpr ⟨wl_21, List.forall_mem_append.mpr ⟨wl_22, List.forall_mem_append.mpr ⟨wl_23, List.forall_mem_append.mpr ⟨wl_24, List.forall_mem_append.mpr ⟨wl_25, List.forall_mem_append.mpr ⟨wl_26, List.forall_mem_append.mpr ⟨wl_27, List.forall_mem_append.mpr ⟨wl_28, List.forall_mem_append.mpr ⟨wl_29, List.forall_mem_append.mpr ⟨wl_30, List.forall_mem_append.mpr ⟨wl_31, List.forall_mem_append.mpr ⟨wl_32, List.forall_mem_append.mpr ⟨wl_33, List.forall_mem_append.mpr ⟨wl_34, List.forall_mem_append.mpr ⟨wl_35, List.forall_mem_append.mpr ⟨wl_36, List.forall_mem_append.mpr ⟨wl_37, wl_38⟩⟩⟩⟩⟩⟩⟩⟩⟩⟩⟩⟩⟩⟩⟩⟩⟩⟩⟩⟩⟩⟩⟩⟩⟩⟩⟩⟩⟩⟩⟩⟩⟩⟩⟩⟩⟩), wi_X5⟩), wi_X6⟩), wi_X4⟩), wi_X1⟩), wi_X2⟩), wi_Jx4a65c⟩), wi_J4⟩), wi_X0⟩), wi_X3⟩), fun _ h => absurd h List.not_mem_nil⟩
theorem wsL_law_in : ∀ w ∈ wsL_law, w ∈ lw_tbl := by
  unfold wsL_law
  exact List.forall_mem_append.mpr ⟨List.forall_mem_append.mpr ⟨List.forall_mem_append.mpr ⟨wl_all, wx_0⟩, wx_1⟩, wx_2⟩
