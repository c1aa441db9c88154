set_option maxRecDepth 20000 in
theorem ggL_law_X10_back : GoodIn wsL_law wsX10_back := goodIn_r _ [681, 177, 148, 179, 383, 180, 181, 5, 182, 470, 471, 472, 473, 141, 142, 1028, 1029, 1030, 1031, 1032, 1033, 1034, 1035, 1036, 1037, 1038, 1039, 1040, 1041, 1042, 1043, 1044, 1045, 1046, 1047, 1048, 1049, 1050, 1051, 1052, 1053] (by decide +kernel) (by decide +kernel)
set_option maxRecDepth 20000 in
theorem gL_law_X10_back : GoodIn wsL_law (wsV RL 69 RX10 yX10_back wsX10_back) := goodIn_app (goodIn_of _ (by decide +kernel)) ggL_law_X10_back
set_option maxRecDepth 20000 in
theorem ggL_law_X9_told : GoodIn wsL_law wsX9_told := goodIn_r _ [685, 686, 687, 24, 426, 36, 429, 430, 2, 431, 165, 166, 167, 688, 689, 690, 35, 691, 119, 692, 693, 694, 695, 696, 118, 697, 698, 452, 453, 94, 454, 100, 101, 102, 699, 700, 701, 702, 371, 372, 373, 374, 504, 363, 364, 365, 366, 367, 368, 369, 370, 703, 501, 502, 503, 704, 705, 706, 707, 708, 709, 710, 711, 87, 712, 95, 96, 713, 1016, 1017, 1018, 1019, 1020, 1021, 1022, 1023, 1024, 1025, 1026, 1027, 1066, 1070, 1071, 1072, 1073, 1074, 1084, 1085, 1086, 1087, 1088] (by decide +kernel) (by decide +kernel)
set_option maxRecDepth 20000 in
theorem gL_law_X9_told : GoodIn wsL_law (wsV RL 70 RX9 yX9_told wsX9_told) := goodIn_app (goodIn_of _ (by decide +kernel)) ggL_law_X9_told
set_option maxRecDepth 20000 in
theorem ggL_law_X10_told : GoodIn wsL_law wsX10_told := goodIn_r _ [717, 718, 465, 719, 545, 720, 462, 463, 5, 464, 180, 181, 182, 721, 722, 723, 724, 141, 142, 725, 726, 727, 728, 559, 579, 580, 581, 582, 564, 565, 566, 567, 568, 569, 474, 475, 476, 477, 478, 479, 480, 560, 561, 562, 563, 1028, 1029, 1030, 1031, 1032, 1033, 1034, 1035, 1036, 1037, 1038, 1039, 1040, 1041, 1042, 1043, 1044, 1045, 1046, 1047, 1048, 1049, 1050, 1051, 1052, 1053] (by decide +kernel) (by decide +kernel)
set_option maxRecDepth 20000 in
theorem gL_law_X10_told : GoodIn wsL_law (wsV RL 74 RX10 yX10_told wsX10_told) := goodIn_app (goodIn_of _ (by decide +kernel)) ggL_law_X10_told
set_option maxRecDepth 20000 in
theorem ggL_law_X9_fold : GoodIn wsL_law wsX9_fold := goodIn_r _ [732, 687, 36, 24, 733, 165, 166, 2, 167, 734, 735, 736, 35, 737, 115, 490, 738, 359, 360, 87, 361, 95, 96, 362, 363, 364, 94, 365, 100, 101, 102, 366, 367, 368, 369, 370, 371, 372, 373, 374, 509, 510, 511, 512, 500, 501, 502, 503, 504, 496, 497, 498, 499, 505, 506, 507, 508, 739, 740, 741, 742, 119, 120, 743, 696, 692, 693, 694, 695, 118, 697, 698, 452, 453, 454, 699, 700, 701, 702, 703, 744, 745, 746, 747, 748, 491, 448, 449, 450, 451, 749, 532, 533, 534, 535, 709, 710, 711, 712, 713, 705, 706, 707, 708, 1016, 1017, 1018, 1019, 1020, 1021, 1022, 1023, 1024, 1025, 1026, 1027, 1070, 1071, 1072, 1073, 1074, 1066, 1084, 1085, 1086, 1087, 1088] (by decide +kernel) (by decide +kernel)
set_option maxRecDepth 20000 in
theorem gL_law_X9_fold : GoodIn wsL_law (wsV RL 75 RX9 yX9_fold wsX9_fold) := goodIn_app (goodIn_of _ (by decide +kernel)) ggL_law_X9_fold
set_option maxRecDepth 20000 in
theorem ggL_law_X10_fold : GoodIn wsL_law wsX10_fold := goodIn_r _ [753, 578, 719, 545, 720, 180, 181, 5, 182, 754, 755, 756, 757, 141, 142, 758, 759, 760, 761, 559, 570, 571, 572, 573, 560, 561, 562, 563, 564, 565, 566, 567, 568, 569, 474, 475, 476, 477, 478, 479, 480, 555, 556, 557, 558, 725, 726, 727, 728, 579, 580, 581, 582, 762, 763, 764, 765, 547, 548, 549, 550, 721, 722, 723, 724, 1028, 1029, 1030, 1031, 1032, 1033, 1034, 1035, 1036, 1037, 1038, 1039, 1040, 1041, 1042, 1043, 1044, 1045, 1046, 1047, 1048, 1049, 1050, 1051, 1052, 1053] (by decide +kernel) (by decide +kernel)
set_option maxRecDepth 20000 in
theorem gL_law_X10_fold : GoodIn wsL_law (wsV RL 78 RX10 yX10_fold wsX10_fold) := goodIn_app (goodIn_of _ (by decide +kernel)) ggL_law_X10_fold
set_option maxRecDepth 20000 in
theorem ggL_law_X9_most : GoodIn wsL_law wsX9_most := goodIn_r _ [769, 36, 24, 526, 162, 770, 771, 772, 35, 773, 490, 119, 743, 120, 774, 692, 693, 694, 695, 696, 118, 697, 698, 452, 453, 94, 454, 100, 101, 102, 699, 700, 701, 702, 371, 372, 373, 374, 504, 363, 364, 365, 366, 367, 368, 369, 370, 703, 501, 502, 503, 745, 746, 747, 748, 775, 776, 777, 778, 779, 780, 781, 782, 783, 2, 784, 734, 735, 736, 737, 115, 738, 359, 360, 87, 361, 95, 96, 362, 509, 510, 511, 512, 500, 496, 497, 498, 499, 505, 506, 507, 508, 739, 740, 741, 742, 744, 491, 448, 449, 450, 451, 749, 532, 533, 534, 535, 785, 786, 787, 788, 789, 790, 1016, 1017, 1018, 1019, 1020, 1021, 1022, 1023, 1024, 1025, 1026, 1027, 1066, 1070, 1071, 1072, 1073, 1074, 1086, 1087, 1088, 1084, 1085] (by decide +kernel) (by decide +kernel)
set_option maxRecDepth 20000 in
theorem gL_law_X9_most : GoodIn wsL_law (wsV RL 79 RX9 yX9_most wsX9_most) := goodIn_app (goodIn_of _ (by decide +kernel)) ggL_law_X9_most
set_option maxRecDepth 20000 in
theorem ggL_law_X10_most : GoodIn wsL_law wsX10_most := goodIn_r _ [794, 465, 177, 545, 546, 141, 180, 181, 5, 182, 547, 548, 549, 550, 142, 570, 571, 572, 573, 560, 561, 562, 563, 564, 565, 566, 567, 568, 569, 474, 475, 476, 477, 478, 479, 480, 725, 726, 727, 728, 559, 579, 580, 581, 582, 762, 763, 764, 765, 1028, 1029, 1030, 1031, 1032, 1033, 1034, 1035, 1036, 1037, 1038, 1039, 1040, 1041, 1042, 1043, 1044, 1045, 1046, 1047, 1048, 1049, 1050, 1051, 1052, 1053] (by decide +kernel) (by decide +kernel)
set_option maxRecDepth 20000 in
theorem gL_law_X10_most : GoodIn wsL_law (wsV RL 82 RX10 yX10_most wsX10_most) := goodIn_app (goodIn_of _ (by decide +kernel)) ggL_law_X10_most
set_option maxRecDepth 20000 in
theorem ggL_law_X9_current : GoodIn wsL_law wsX9_current := goodIn_r _ [798, 686, 40, 429, 430, 2, 431, 165, 166, 167, 609, 610, 611, 612, 388, 162, 19, 164, 392, 393, 394, 395, 396, 613, 614, 615, 616, 617, 618, 619, 620, 621, 39, 622, 623, 127, 624, 398, 399, 18, 400, 64, 63, 625, 626, 627, 628, 124, 125, 126, 799, 800, 801, 802, 803, 804, 805, 806, 807, 630, 631, 632, 808, 634, 635, 636, 809, 810, 811, 812, 813, 369, 94, 370, 1016, 1017, 1018, 1019, 1020, 1021, 1022, 1023, 1024, 1025, 1026, 1027, 1061, 1062, 1063, 1064, 1065, 1075, 1076, 1077, 1078] (by decide +kernel) (by decide +kernel)
set_option maxRecDepth 20000 in
theorem gL_law_X9_current : GoodIn wsL_law (wsV RL 83 RX9 yX9_current wsX9_current) := goodIn_app (goodIn_of _ (by decide +kernel)) ggL_law_X9_current
set_option maxRecDepth 20000 in
theorem ggL_law_X10_current : GoodIn wsL_law wsX10_current := goodIn_r _ [817, 718, 465, 719, 641, 818, 410, 411, 412, 5, 413, 144, 180, 181, 182, 462, 463, 464, 642, 643, 644, 578, 645, 646, 647, 648, 649, 156, 143, 414, 415, 416, 417, 146, 145, 650, 651, 652, 653, 157, 819, 820, 821, 822, 823, 824, 825, 826, 474, 475, 476, 477, 141, 142, 478, 479, 480, 721, 722, 723, 724, 1028, 1029, 1030, 1031, 1032, 1033, 1034, 1035, 1036, 1037, 1038, 1039, 1040, 1041, 1042, 1043, 1044, 1045, 1046, 1047, 1048, 1049, 1050, 1051, 1052, 1053] (by decide +kernel) (by decide +kernel)
set_option maxRecDepth 20000 in
theorem gL_law_X10_current : GoodIn wsL_law (wsV RL 87 RX10 yX10_current wsX10_current) := goodIn_app (goodIn_of _ (by decide +kernel)) ggL_law_X10_current
