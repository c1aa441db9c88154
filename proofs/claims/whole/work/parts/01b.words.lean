theorem zw_in {big ws : List Cond} (ps : List Nat) (h : ws = ps.filterMap (fun i => big[i]?)) : ∀ w ∈ ws, w ∈ big := by
  intro w hw
  rw [h] at hw
  obtain ⟨i, -, hi⟩ := List.mem_filterMap.mp hw
  exact List.mem_of_getElem? hi
theorem zw_ap {big a b : List Cond} (ha : ∀ w ∈ a, w ∈ big) (hb : ∀ w ∈ b, w ∈ big) : ∀ w ∈ a ++ b, w ∈ big := fun w h => (List.mem_append.mp h).elim (ha w) (hb w)
set_option maxRecDepth 20000 in
theorem zw_wsL_law_r1 : ∀ w ∈ wsL_law_r1, w ∈ lw_tbl := zw_in [72, 73, 55, 854, 855, 65, 74, 75, 76, 77, 78, 79, 80, 81, 56, 303, 111, 112, 57, 304, 305, 157, 158, 58] (by decide +kernel)
set_option maxRecDepth 20000 in
theorem zw_wsL_law_r2 : ∀ w ∈ wsL_law_r2, w ∈ lw_tbl := zw_in [306, 307, 211, 212, 61, 308, 309, 257, 310, 231, 232, 62, 311, 258, 259, 63, 312, 313, 278, 280, 64, 314, 83, 84] (by decide +kernel)
set_option maxRecDepth 20000 in
theorem zw_wsL_law_r3 : ∀ w ∈ wsL_law_r3, w ∈ lw_tbl := zw_in [85, 110, 86, 87, 89, 91, 92, 93, 94, 113, 114, 115, 116, 133, 136, 139, 141, 143, 117, 118, 119, 120, 121, 122] (by decide +kernel)
set_option maxRecDepth 20000 in
theorem zw_wsL_law_r4 : ∀ w ∈ wsL_law_r4, w ∈ lw_tbl := zw_in [123, 124, 125, 126, 127, 128, 129, 130, 131, 132, 160, 161, 162, 163, 165, 59, 204, 167, 168, 169, 170, 171, 60, 191] (by decide +kernel)
set_option maxRecDepth 20000 in
theorem zw_wsL_law_r5 : ∀ w ∈ wsL_law_r5, w ∈ lw_tbl := zw_in [195, 173, 174, 175, 176, 179, 181, 213, 214, 215, 216, 217, 220, 221, 223, 234, 235, 236, 237, 241, 242, 239, 243, 244] (by decide +kernel)
set_option maxRecDepth 20000 in
theorem zw_wsL_law_r6 : ∀ w ∈ wsL_law_r6, w ∈ lw_tbl := zw_in [245, 261, 262, 263, 264, 265, 266, 267, 282, 283, 284, 285, 287, 289, 290, 291, 856, 857, 858, 859, 939, 860, 861, 862] (by decide +kernel)
set_option maxRecDepth 20000 in
theorem zw_wsL_law_r7 : ∀ w ∈ wsL_law_r7, w ∈ lw_tbl := zw_in [863, 864, 865, 866, 868, 869, 871, 872, 873, 874, 880, 881, 884, 885, 340, 341, 342, 343, 347, 88, 352, 344, 345, 346] (by decide +kernel)
set_option maxRecDepth 20000 in
theorem zw_wsL_law_r8 : ∀ w ∈ wsL_law_r8, w ∈ lw_tbl := zw_in [348, 349, 350, 351, 940, 941, 942, 943, 944, 948, 870, 949, 945, 946, 947, 353, 354, 355, 356, 950, 951, 952, 953, 357] (by decide +kernel)
set_option maxRecDepth 20000 in
theorem zw_wsL_law_r9 : ∀ w ∈ wsL_law_r9, w ∈ lw_tbl := zw_in [358, 359, 360, 361, 362, 363, 364, 365, 367, 366, 66, 368, 369, 370, 371, 372, 374, 0, 375, 137, 144, 376, 378, 1] (by decide +kernel)
set_option maxRecDepth 20000 in
theorem zw_wsL_law_r10 : ∀ w ∈ wsL_law_r10, w ∈ lw_tbl := zw_in [379, 380, 381, 382, 384, 386, 2, 387, 388, 389, 390, 67, 391, 1252, 392, 393, 394, 395, 396, 1253, 398, 399, 400, 401] (by decide +kernel)
set_option maxRecDepth 20000 in
theorem zw_wsL_law_r11 : ∀ w ∈ wsL_law_r11, w ∈ lw_tbl := zw_in [402, 403, 404, 405, 406, 407, 68, 408, 409, 410, 411, 412, 414, 415, 69, 416, 417, 418, 70, 419, 420, 421, 422, 423] (by decide +kernel)
set_option maxRecDepth 20000 in
theorem zw_wsL_law_r12 : ∀ w ∈ wsL_law_r12, w ∈ lw_tbl := zw_in [424, 425, 426, 427, 428, 429, 430, 432, 434, 436, 438, 3, 439, 440, 442, 444, 4, 445, 446, 448, 449, 451, 453, 5] (by decide +kernel)
set_option maxRecDepth 20000 in
theorem zw_wsL_law_r13 : ∀ w ∈ wsL_law_r13, w ∈ lw_tbl := zw_in [454, 954, 955, 956, 957, 875, 958, 960, 16, 961, 879, 876, 878, 877, 962, 964, 17, 965, 966, 967, 968, 969, 970, 971] (by decide +kernel)
set_option maxRecDepth 20000 in
theorem zw_wsL_law_r14 : ∀ w ∈ wsL_law_r14, w ∈ lw_tbl := zw_in [972, 973, 974, 975, 976, 978, 18, 979, 980, 982, 19, 983, 984, 986, 20, 987, 988, 990, 21, 991, 992, 994, 22, 995] (by decide +kernel)
set_option maxRecDepth 20000 in
theorem zw_wsL_law_r15 : ∀ w ∈ wsL_law_r15, w ∈ lw_tbl := zw_in [996, 998, 23, 999, 1000, 1002, 24, 1003, 456, 457, 458, 459, 90, 460, 462, 6, 463, 222, 464, 465, 466, 467, 468, 469] (by decide +kernel)
set_option maxRecDepth 20000 in
theorem zw_wsL_law_r16 : ∀ w ∈ wsL_law_r16, w ∈ lw_tbl := zw_in [470, 471, 472, 473, 474, 475, 483, 484, 476, 477, 478, 479, 480, 481, 482, 485, 486, 487, 488, 1004, 1005, 1006, 1007, 867] (by decide +kernel)
set_option maxRecDepth 20000 in
theorem zw_wsL_law_r17 : ∀ w ∈ wsL_law_r17, w ∈ lw_tbl := zw_in [489, 490, 491, 492, 497, 140, 142, 145, 493, 495, 7, 496, 138, 498, 499, 500, 501, 502, 503, 504, 505, 1008, 1009, 1010] (by decide +kernel)
set_option maxRecDepth 20000 in
theorem zw_wsL_law_r18 : ∀ w ∈ wsL_law_r18, w ∈ lw_tbl := zw_in [1011, 1016, 1012, 1014, 25, 1015, 1017, 1019, 26, 1020, 1021, 1023, 27, 1024, 506, 507, 508, 509, 206, 193, 197, 510, 511, 512] (by decide +kernel)
set_option maxRecDepth 20000 in
theorem zw_wsL_law_r19 : ∀ w ∈ wsL_law_r19, w ∈ lw_tbl := zw_in [513, 514, 515, 516, 517, 518, 519, 532, 533, 71, 534, 520, 521, 522, 523, 524, 525, 526, 527, 528, 529, 530, 531, 535] (by decide +kernel)
set_option maxRecDepth 20000 in
theorem zw_wsL_law_r20 : ∀ w ∈ wsL_law_r20, w ∈ lw_tbl := zw_in [1025, 1026, 1027, 1028, 1033, 1034, 1029, 1030, 1031, 1032, 1035, 1037, 28, 1038, 1039, 1041, 29, 1042, 1043, 1045, 30, 1046, 1047, 1048] (by decide +kernel)
set_option maxRecDepth 20000 in
theorem zw_wsL_law_r21 : ∀ w ∈ wsL_law_r21, w ∈ lw_tbl := zw_in [1049, 536, 537, 538, 539, 540, 542, 543, 544, 545, 205, 546, 547, 549, 8, 550, 551, 552, 553, 554, 555, 556, 557, 558] (by decide +kernel)
set_option maxRecDepth 20000 in
theorem zw_wsL_law_r22 : ∀ w ∈ wsL_law_r22, w ∈ lw_tbl := zw_in [559, 560, 561, 562, 563, 564, 565, 566, 567, 568, 569, 570, 571, 572, 573, 574, 575, 576, 577, 579, 9, 580, 589, 581] (by decide +kernel)
set_option maxRecDepth 20000 in
theorem zw_wsL_law_r23 : ∀ w ∈ wsL_law_r23, w ∈ lw_tbl := zw_in [582, 583, 584, 585, 586, 587, 588, 182, 590, 1050, 1051, 1052, 1053, 1054, 1056, 31, 1057, 882, 1094, 1058, 1060, 32, 1061, 1062] (by decide +kernel)
set_option maxRecDepth 20000 in
theorem zw_wsL_law_r24 : ∀ w ∈ wsL_law_r24, w ∈ lw_tbl := zw_in [1064, 33, 1065, 1066, 1068, 34, 1069, 1070, 1071, 1073, 35, 1074, 1075, 1077, 36, 1078, 1079, 1080, 1081, 1083, 37, 1084, 1085, 1087] (by decide +kernel)
set_option maxRecDepth 20000 in
theorem zw_wsL_law_r25 : ∀ w ∈ wsL_law_r25, w ∈ lw_tbl := zw_in [38, 1088, 1089, 1090, 1092, 39, 1093, 591, 592, 593, 594, 595, 1095, 1096, 1097, 1098, 597, 598, 599, 600, 601, 602, 603, 604] (by decide +kernel)
set_option maxRecDepth 20000 in
theorem zw_wsL_law_r26 : ∀ w ∈ wsL_law_r26, w ∈ lw_tbl := zw_in [1099, 1100, 1101, 1102, 605, 606, 607, 608, 268, 609, 611, 10, 612, 613, 614, 615, 616, 617, 618, 619, 620, 621, 622, 134] (by decide +kernel)
set_option maxRecDepth 20000 in
theorem zw_wsL_law_r27 : ∀ w ∈ wsL_law_r27, w ∈ lw_tbl := zw_in [623, 624, 626, 11, 627, 628, 629, 630, 631, 632, 633, 634, 635, 1150, 1151, 1152, 1153, 883, 1154, 1155, 1156, 1157, 1158, 1160] (by decide +kernel)
set_option maxRecDepth 20000 in
theorem zw_wsL_law_r28 : ∀ w ∈ wsL_law_r28, w ∈ lw_tbl := zw_in [45, 1161, 1162, 1164, 46, 1165, 636, 637, 638, 639, 640, 641, 642, 643, 1103, 1104, 1105, 1106, 644, 645, 646, 647, 1107, 1108] (by decide +kernel)
set_option maxRecDepth 20000 in
theorem zw_wsL_law_r29 : ∀ w ∈ wsL_law_r29, w ∈ lw_tbl := zw_in [1109, 1110, 648, 649, 650, 651, 1111, 1112, 1113, 1114, 652, 653, 654, 655, 656, 657, 658, 659, 660, 661, 662, 664, 12, 665] (by decide +kernel)
set_option maxRecDepth 20000 in
theorem zw_wsL_law_r30 : ∀ w ∈ wsL_law_r30, w ∈ lw_tbl := zw_in [192, 196, 666, 667, 668, 669, 670, 671, 672, 673, 674, 675, 676, 677, 678, 679, 680, 681, 1115, 1116, 1117, 1118, 1119, 1120] (by decide +kernel)
set_option maxRecDepth 20000 in
theorem zw_wsL_law_r31 : ∀ w ∈ wsL_law_r31, w ∈ lw_tbl := zw_in [1129, 1121, 1123, 40, 1124, 1125, 1127, 41, 1128, 682, 683, 684, 685, 701, 686, 687, 688, 689, 690, 691, 693, 13, 694, 183] (by decide +kernel)
set_option maxRecDepth 20000 in
theorem zw_wsL_law_r32 : ∀ w ∈ wsL_law_r32, w ∈ lw_tbl := zw_in [695, 696, 697, 698, 699, 700, 1130, 1131, 1132, 1133, 1134, 1136, 42, 1137, 1138, 1140, 43, 1141, 1142, 1144, 44, 1145, 702, 703] (by decide +kernel)
set_option maxRecDepth 20000 in
theorem zw_wsL_law_r33 : ∀ w ∈ wsL_law_r33, w ∈ lw_tbl := zw_in [704, 705, 706, 707, 708, 709, 710, 711, 712, 713, 714, 715, 716, 717, 718, 720, 721, 722, 723, 724, 725, 177, 726, 1146] (by decide +kernel)
set_option maxRecDepth 20000 in
theorem zw_wsL_law_r34 : ∀ w ∈ wsL_law_r34, w ∈ lw_tbl := zw_in [1147, 1148, 1149, 727, 728, 729, 730, 731, 732, 733, 734, 735, 736, 737, 738, 739, 740, 741, 742, 743, 745, 744, 1166, 1167] (by decide +kernel)
set_option maxRecDepth 20000 in
theorem zw_wsL_law_r35 : ∀ w ∈ wsL_law_r35, w ∈ lw_tbl := zw_in [1168, 1169, 1170, 1171, 1173, 47, 1174, 1175, 1177, 48, 1178, 746, 747, 748, 749, 750, 751, 752, 753, 754, 755, 756, 757, 1179] (by decide +kernel)
set_option maxRecDepth 20000 in
theorem zw_wsL_law_r36 : ∀ w ∈ wsL_law_r36, w ∈ lw_tbl := zw_in [1180, 1181, 1182, 1183, 1185, 49, 1186, 1187, 1189, 50, 1190, 758, 759, 760, 761, 135, 762, 763, 764, 765, 773, 766, 767, 768] (by decide +kernel)
set_option maxRecDepth 20000 in
theorem zw_wsL_law_r37 : ∀ w ∈ wsL_law_r37, w ∈ lw_tbl := zw_in [769, 770, 771, 772, 1191, 1192, 1193, 1194, 1195, 1196, 774, 775, 776, 777, 778, 779, 780, 781, 782, 783, 784, 785, 786, 787] (by decide +kernel)
set_option maxRecDepth 20000 in
theorem zw_wsL_law_r38 : ∀ w ∈ wsL_law_r38, w ∈ lw_tbl := zw_in [788, 1197, 1198, 1199, 1200, 1201, 1203, 51, 1204, 789, 790, 791, 792, 793, 1205, 1206, 1207, 1208, 794, 795, 796, 797, 798, 799] (by decide +kernel)
set_option maxRecDepth 20000 in
theorem zw_wsL_law_r39 : ∀ w ∈ wsL_law_r39, w ∈ lw_tbl := zw_in [800, 801, 207, 194, 198, 802, 804, 14, 805, 180, 178, 1209, 1210, 1211, 1212, 1213, 1215, 52, 1216, 806, 807, 808, 809, 286] (by decide +kernel)
set_option maxRecDepth 20000 in
theorem zw_wsL_law_r40 : ∀ w ∈ wsL_law_r40, w ∈ lw_tbl := zw_in [288, 810, 811, 812, 1217, 1218, 1219, 1220, 1221, 1222, 1223, 813, 814, 815, 816, 817, 818, 819, 820, 821, 822, 1224, 1225, 1226] (by decide +kernel)
set_option maxRecDepth 20000 in
theorem zw_wsL_law_r41 : ∀ w ∈ wsL_law_r41, w ∈ lw_tbl := zw_in [1227, 1228, 1229, 823, 824, 825, 826, 827, 828, 829, 830, 831, 832, 1230, 1231, 1232, 1233, 1234, 1235, 833, 834, 835, 836, 837] (by decide +kernel)
set_option maxRecDepth 20000 in
theorem zw_wsL_law_r42 : ∀ w ∈ wsL_law_r42, w ∈ lw_tbl := zw_in [838, 839, 840, 1236, 1237, 1238, 1239, 841, 842, 843, 844, 845, 1240, 1241, 1242, 1243, 846, 847, 848, 849, 850, 852, 15, 853] (by decide +kernel)
set_option maxRecDepth 20000 in
theorem zw_wsL_law_r43 : ∀ w ∈ wsL_law_r43, w ∈ lw_tbl := zw_in [1244, 1245, 1246, 1247, 1248, 1250, 53, 1251] (by decide +kernel)
set_option maxRecDepth 20000 in
theorem zw_wsX90 : ∀ w ∈ wsX90, w ∈ lw_tbl := zw_in [315, 317, 319, 321, 323, 325, 327, 329, 331, 333, 335, 337] (by decide +kernel)
set_option maxRecDepth 20000 in
theorem zw_wsX100 : ∀ w ∈ wsX100, w ∈ lw_tbl := zw_in [886, 888, 890, 892, 894, 896, 898, 900, 902, 904, 906, 908, 910, 912, 914, 916, 918, 920, 922, 924, 926, 928, 930, 932, 934, 936] (by decide +kernel)
set_option maxRecDepth 20000 in
theorem zw_wsX70 : ∀ w ∈ wsX70, w ∈ lw_tbl := zw_in [95, 97, 99, 101, 103, 105, 107] (by decide +kernel)
set_option maxRecDepth 20000 in
theorem zw_wsX20 : ∀ w ∈ wsX20, w ∈ lw_tbl := zw_in [146, 148, 150, 152, 154] (by decide +kernel)
set_option maxRecDepth 20000 in
theorem zw_wsX80 : ∀ w ∈ wsX80, w ∈ lw_tbl := zw_in [208] (by decide +kernel)
set_option maxRecDepth 20000 in
theorem zw_wsX30 : ∀ w ∈ wsX30, w ∈ lw_tbl := zw_in [224, 226, 228] (by decide +kernel)
set_option maxRecDepth 20000 in
theorem zw_wsX50 : ∀ w ∈ wsX50, w ∈ lw_tbl := zw_in [246, 248, 250, 252, 254] (by decide +kernel)
set_option maxRecDepth 20000 in
theorem zw_wsX00 : ∀ w ∈ wsX00, w ∈ lw_tbl := zw_in [269, 271, 273, 275] (by decide +kernel)
set_option maxRecDepth 20000 in
theorem zw_wsX60 : ∀ w ∈ wsX60, w ∈ lw_tbl := zw_in [292, 294, 296, 298, 300] (by decide +kernel)
set_option maxRecDepth 20000 in
theorem zw_wsX40 : ∀ w ∈ wsX40, w ∈ lw_tbl := zw_in [199, 201] (by decide +kernel)
set_option maxRecDepth 20000 in
theorem zw_wsX10 : ∀ w ∈ wsX10, w ∈ lw_tbl := zw_in [184, 186, 188] (by decide +kernel)
theorem wsL_law_in : ∀ w ∈ wsL_law, w ∈ lw_tbl := zw_ap (zw_ap (zw_ap (zw_ap (zw_ap (zw_ap (zw_ap (zw_ap (zw_ap (zw_ap (zw_ap (zw_ap (zw_ap zw_wsL_law_r1 (zw_ap zw_wsL_law_r2 (zw_ap zw_wsL_law_r3 (zw_ap zw_wsL_law_r4 (zw_ap zw_wsL_law_r5 (zw_ap zw_wsL_law_r6 (zw_ap zw_wsL_law_r7 (zw_ap zw_wsL_law_r8 (zw_ap zw_wsL_law_r9 (zw_ap zw_wsL_law_r10 (zw_ap zw_wsL_law_r11 (zw_ap zw_wsL_law_r12 (zw_ap zw_wsL_law_r13 (zw_ap zw_wsL_law_r14 (zw_ap zw_wsL_law_r15 (zw_ap zw_wsL_law_r16 (zw_ap zw_wsL_law_r17 (zw_ap zw_wsL_law_r18 (zw_ap zw_wsL_law_r19 (zw_ap zw_wsL_law_r20 (zw_ap zw_wsL_law_r21 (zw_ap zw_wsL_law_r22 (zw_ap zw_wsL_law_r23 (zw_ap zw_wsL_law_r24 (zw_ap zw_wsL_law_r25 (zw_ap zw_wsL_law_r26 (zw_ap zw_wsL_law_r27 (zw_ap zw_wsL_law_r28 (zw_ap zw_wsL_law_r29 (zw_ap zw_wsL_law_r30 (zw_ap zw_wsL_law_r31 (zw_ap zw_wsL_law_r32 (zw_ap zw_wsL_law_r33 (zw_ap zw_wsL_law_r34 (zw_ap zw_wsL_law_r35 (zw_ap zw_wsL_law_r36 (zw_ap zw_wsL_law_r37 (zw_ap zw_wsL_law_r38 (zw_ap zw_wsL_law_r39 (zw_ap zw_wsL_law_r40 (zw_ap zw_wsL_law_r41 (zw_ap zw_wsL_law_r42 (zw_wsL_law_r43))))))))))))))))))))))))))))))))))))))))))) zw_wsX90) zw_wsX100) zw_wsX70) zw_wsX20) zw_wsX80) zw_wsX30) zw_wsX50) zw_wsX00) zw_wsX60) zw_wsX40) zw_wsX10) (fun _ h => absurd h List.not_mem_nil)
theorem inlX0 : ∀ w ∈ wsX00, w ∈ wsL_law := fun _ h => List.mem_append_left _ (List.mem_append_left _ (List.mem_append_left _ (List.mem_append_left _ (List.mem_append_right _ h))))
theorem inX0 : ∀ w ∈ wsX00, w ∈ lw_tbl := fun w h => wsL_law_in w (inlX0 w h)
theorem inlX1 : ∀ w ∈ wsX10, w ∈ wsL_law := fun _ h => List.mem_append_left _ (List.mem_append_right _ h)
theorem inX1 : ∀ w ∈ wsX10, w ∈ lw_tbl := fun w h => wsL_law_in w (inlX1 w h)
theorem inlX2 : ∀ w ∈ wsX20, w ∈ wsL_law := fun _ h => List.mem_append_left _ (List.mem_append_left _ (List.mem_append_left _ (List.mem_append_left _ (List.mem_append_left _ (List.mem_append_left _ (List.mem_append_left _ (List.mem_append_left _ (List.mem_append_right _ h))))))))
theorem inX2 : ∀ w ∈ wsX20, w ∈ lw_tbl := fun w h => wsL_law_in w (inlX2 w h)
theorem inlX3 : ∀ w ∈ wsX30, w ∈ wsL_law := fun _ h => List.mem_append_left _ (List.mem_append_left _ (List.mem_append_left _ (List.mem_append_left _ (List.mem_append_left _ (List.mem_append_left _ (List.mem_append_right _ h))))))
theorem inX3 : ∀ w ∈ wsX30, w ∈ lw_tbl := fun w h => wsL_law_in w (inlX3 w h)
theorem inlX4 : ∀ w ∈ wsX40, w ∈ wsL_law := fun _ h => List.mem_append_left _ (List.mem_append_left _ (List.mem_append_right _ h))
theorem inX4 : ∀ w ∈ wsX40, w ∈ lw_tbl := fun w h => wsL_law_in w (inlX4 w h)
theorem inlX5 : ∀ w ∈ wsX50, w ∈ wsL_law := fun _ h => List.mem_append_left _ (List.mem_append_left _ (List.mem_append_left _ (List.mem_append_left _ (List.mem_append_left _ (List.mem_append_right _ h)))))
theorem inX5 : ∀ w ∈ wsX50, w ∈ lw_tbl := fun w h => wsL_law_in w (inlX5 w h)
theorem inlX6 : ∀ w ∈ wsX60, w ∈ wsL_law := fun _ h => List.mem_append_left _ (List.mem_append_left _ (List.mem_append_left _ (List.mem_append_right _ h)))
theorem inX6 : ∀ w ∈ wsX60, w ∈ lw_tbl := fun w h => wsL_law_in w (inlX6 w h)
theorem inlX7 : ∀ w ∈ wsX70, w ∈ wsL_law := fun _ h => List.mem_append_left _ (List.mem_append_left _ (List.mem_append_left _ (List.mem_append_left _ (List.mem_append_left _ (List.mem_append_left _ (List.mem_append_left _ (List.mem_append_left _ (List.mem_append_left _ (List.mem_append_right _ h)))))))))
theorem inX7 : ∀ w ∈ wsX70, w ∈ lw_tbl := fun w h => wsL_law_in w (inlX7 w h)
theorem inlX8 : ∀ w ∈ wsX80, w ∈ wsL_law := fun _ h => List.mem_append_left _ (List.mem_append_left _ (List.mem_append_left _ (List.mem_append_left _ (List.mem_append_left _ (List.mem_append_left _ (List.mem_append_left _ (List.mem_append_right _ h)))))))
theorem inX8 : ∀ w ∈ wsX80, w ∈ lw_tbl := fun w h => wsL_law_in w (inlX8 w h)
theorem inlX9 : ∀ w ∈ wsX90, w ∈ wsL_law := fun _ h => List.mem_append_left _ (List.mem_append_left _ (List.mem_append_left _ (List.mem_append_left _ (List.mem_append_left _ (List.mem_append_left _ (List.mem_append_left _ (List.mem_append_left _ (List.mem_append_left _ (List.mem_append_left _ (List.mem_append_left _ (List.mem_append_right _ h)))))))))))
theorem inX9 : ∀ w ∈ wsX90, w ∈ lw_tbl := fun w h => wsL_law_in w (inlX9 w h)
theorem inlX10 : ∀ w ∈ wsX100, w ∈ wsL_law := fun _ h => List.mem_append_left _ (List.mem_append_left _ (List.mem_append_left _ (List.mem_append_left _ (List.mem_append_left _ (List.mem_append_left _ (List.mem_append_left _ (List.mem_append_left _ (List.mem_append_left _ (List.mem_append_left _ (List.mem_append_right _ h))))))))))
theorem inX10 : ∀ w ∈ wsX100, w ∈ lw_tbl := fun w h => wsL_law_in w (inlX10 w h)
theorem inJ9 : ∀ w ∈ wsJ90, w ∈ lw_tbl := by decide +kernel
theorem inJ0 : ∀ w ∈ wsJ00, w ∈ lw_tbl := by decide +kernel
theorem inJ1 : ∀ w ∈ wsJ10, w ∈ lw_tbl := by decide +kernel
theorem inJ2 : ∀ w ∈ wsJ20, w ∈ lw_tbl := by decide +kernel
theorem inJ10 : ∀ w ∈ wsJ100, w ∈ lw_tbl := by decide +kernel
theorem inJ3 : ∀ w ∈ wsJ30, w ∈ lw_tbl := by decide +kernel
