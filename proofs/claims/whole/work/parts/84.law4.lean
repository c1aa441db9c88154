set_option maxRecDepth 20000 in
theorem ggL_law_X9_voltage : GoodIn wsL_law wsX9_voltage := goodIn_r _ [830, 686, 41, 19, 40, 392, 393, 394, 2, 395, 396, 165, 166, 167, 429, 430, 431, 609, 610, 611, 612, 388, 162, 164, 613, 614, 615, 616, 617, 618, 619, 620, 621, 39, 622, 623, 127, 624, 398, 399, 18, 400, 64, 63, 625, 626, 627, 628, 124, 125, 126, 831, 832, 833, 834, 835, 836, 837, 838, 799, 800, 801, 802, 803, 804, 805, 806, 807, 630, 631, 632, 808, 634, 635, 636, 809, 810, 811, 812, 813, 369, 94, 370, 1016, 1017, 1018, 1019, 1020, 1021, 1022, 1023, 1024, 1025, 1026, 1027, 1061, 1062, 1063, 1064, 1065, 1075, 1076, 1077, 1078] (by decide +kernel) (by decide +kernel)
set_option maxRecDepth 20000 in
theorem gL_law_X9_voltage : GoodIn wsL_law (wsV RL 88 RX9 yX9_voltage wsX9_voltage) := goodIn_app (goodIn_of _ (by decide +kernel)) ggL_law_X9_voltage
set_option maxRecDepth 20000 in
theorem ggL_law_X10_voltage : GoodIn wsL_law wsX10_voltage := goodIn_r _ [842, 718, 465, 719, 641, 818, 410, 411, 412, 5, 413, 144, 180, 181, 182, 462, 463, 464, 642, 643, 644, 578, 645, 646, 647, 648, 649, 156, 143, 414, 415, 416, 417, 146, 145, 843, 844, 845, 846, 847, 848, 849, 850, 650, 651, 652, 653, 157, 819, 820, 821, 822, 823, 824, 825, 826, 474, 475, 476, 477, 141, 142, 478, 479, 480, 721, 722, 723, 724, 1028, 1029, 1030, 1031, 1032, 1033, 1034, 1035, 1036, 1037, 1038, 1039, 1040, 1041, 1042, 1043, 1044, 1045, 1046, 1047, 1048, 1049, 1050, 1051, 1052, 1053] (by decide +kernel) (by decide +kernel)
set_option maxRecDepth 20000 in
theorem gL_law_X10_voltage : GoodIn wsL_law (wsV RL 92 RX10 yX10_voltage wsX10_voltage) := goodIn_app (goodIn_of _ (by decide +kernel)) ggL_law_X10_voltage
set_option maxRecDepth 20000 in
theorem ggL_law_X9_sag : GoodIn wsL_law wsX9_sag := goodIn_r _ [854, 19, 396, 41, 40, 855, 165, 166, 2, 167, 609, 610, 611, 612, 388, 162, 164, 392, 393, 394, 395, 613, 614, 615, 616, 617, 618, 619, 620, 621, 39, 622, 623, 127, 624, 398, 399, 18, 400, 64, 63, 625, 626, 627, 628, 124, 125, 126, 831, 832, 833, 834, 835, 836, 837, 838, 856, 857, 858, 859, 860, 861, 862, 863, 864, 865, 866, 441, 867, 803, 804, 805, 806, 807, 630, 631, 632, 808, 634, 635, 636, 1016, 1017, 1018, 1019, 1020, 1021, 1022, 1023, 1024, 1025, 1026, 1027, 1061, 1062, 1063, 1064, 1065, 1075, 1076, 1077, 1078] (by decide +kernel) (by decide +kernel)
set_option maxRecDepth 20000 in
theorem gL_law_X9_sag : GoodIn wsL_law (wsV RL 93 RX9 yX9_sag wsX9_sag) := goodIn_app (goodIn_of _ (by decide +kernel)) ggL_law_X9_sag
set_option maxRecDepth 20000 in
theorem ggL_law_X10_sag : GoodIn wsL_law wsX10_sag := goodIn_r _ [871, 409, 872, 177, 144, 143, 641, 873, 179, 410, 411, 412, 5, 413, 180, 181, 182, 642, 643, 644, 578, 645, 646, 647, 648, 649, 156, 414, 415, 416, 417, 146, 145, 843, 844, 845, 846, 847, 848, 849, 850, 650, 651, 652, 653, 157, 823, 824, 825, 826, 1028, 1029, 1030, 1031, 1032, 1033, 1034, 1035, 1036, 1037, 1038, 1039, 1040, 1041, 1042, 1043, 1044, 1045, 1046, 1047, 1048, 1049, 1050, 1051, 1052, 1053] (by decide +kernel) (by decide +kernel)
set_option maxRecDepth 20000 in
theorem gL_law_X10_sag : GoodIn wsL_law (wsV RL 97 RX10 yX10_sag wsX10_sag) := goodIn_app (goodIn_of _ (by decide +kernel)) ggL_law_X10_sag
set_option maxRecDepth 20000 in
theorem ggL_law_X9_trips : GoodIn wsL_law wsX9_trips := goodIn_r _ [877, 19, 391, 40, 389, 609, 610, 611, 2, 612, 388, 162, 164, 392, 393, 394, 395, 396, 165, 166, 167, 613, 614, 615, 616, 617, 618, 619, 620, 621, 39, 622, 623, 127, 624, 398, 399, 18, 400, 64, 63, 625, 626, 627, 628, 124, 125, 126, 878, 879, 880, 881, 882, 883, 884, 885, 886, 887, 441, 888, 803, 804, 805, 806, 807, 630, 631, 632, 808, 634, 635, 636, 1016, 1017, 1018, 1019, 1020, 1021, 1022, 1023, 1024, 1025, 1026, 1027, 1061, 1062, 1063, 1064, 1065, 1075, 1076, 1077, 1078] (by decide +kernel) (by decide +kernel)
set_option maxRecDepth 20000 in
theorem gL_law_X9_trips : GoodIn wsL_law (wsV RL 98 RX9 yX9_trips wsX9_trips) := goodIn_app (goodIn_of _ (by decide +kernel)) ggL_law_X9_trips
set_option maxRecDepth 20000 in
theorem ggL_law_X10_trips : GoodIn wsL_law wsX10_trips := goodIn_r _ [892, 409, 177, 147, 641, 145, 179, 410, 411, 412, 5, 413, 144, 180, 181, 182, 642, 643, 644, 578, 645, 646, 647, 648, 649, 156, 143, 414, 415, 416, 417, 146, 650, 651, 652, 653, 157, 893, 894, 895, 896, 823, 824, 825, 826, 1028, 1029, 1030, 1031, 1032, 1033, 1034, 1035, 1036, 1037, 1038, 1039, 1040, 1041, 1042, 1043, 1044, 1045, 1046, 1047, 1048, 1049, 1050, 1051, 1052, 1053] (by decide +kernel) (by decide +kernel)
set_option maxRecDepth 20000 in
theorem gL_law_X10_trips : GoodIn wsL_law (wsV RL 101 RX10 yX10_trips wsX10_trips) := goodIn_app (goodIn_of _ (by decide +kernel)) ggL_law_X10_trips
set_option maxRecDepth 20000 in
theorem ggL_law_X9_worst : GoodIn wsL_law wsX9_worst := goodIn_r _ [900, 162, 19, 396, 40, 608, 613, 614, 2, 615, 165, 166, 167, 616, 617, 618, 619, 620, 621, 39, 622, 623, 127, 624, 398, 399, 18, 400, 64, 63, 625, 626, 627, 628, 124, 125, 126, 901, 883, 884, 885, 886, 887, 441, 888, 803, 804, 805, 806, 807, 630, 631, 632, 808, 634, 635, 636, 1016, 1017, 1018, 1019, 1020, 1021, 1022, 1023, 1024, 1025, 1026, 1027, 1061, 1062, 1063, 1064, 1065, 1075, 1076, 1077, 1078] (by decide +kernel) (by decide +kernel)
set_option maxRecDepth 20000 in
theorem gL_law_X9_worst : GoodIn wsL_law (wsV RL 102 RX9 yX9_worst wsX9_worst) := goodIn_app (goodIn_of _ (by decide +kernel)) ggL_law_X9_worst
set_option maxRecDepth 20000 in
theorem ggL_law_X10_worst : GoodIn wsL_law wsX10_worst := goodIn_r _ [905, 177, 144, 641, 642, 643, 5, 644, 578, 645, 180, 181, 182, 646, 647, 648, 649, 156, 143, 414, 415, 416, 417, 146, 145, 650, 651, 652, 653, 157, 893, 894, 895, 896, 823, 824, 825, 826, 1028, 1029, 1030, 1031, 1032, 1033, 1034, 1035, 1036, 1037, 1038, 1039, 1040, 1041, 1042, 1043, 1044, 1045, 1046, 1047, 1048, 1049, 1050, 1051, 1052, 1053] (by decide +kernel) (by decide +kernel)
set_option maxRecDepth 20000 in
theorem gL_law_X10_worst : GoodIn wsL_law (wsV RL 105 RX10 yX10_worst wsX10_worst) := goodIn_app (goodIn_of _ (by decide +kernel)) ggL_law_X10_worst
set_option maxRecDepth 20000 in
theorem ggL_law_X9_match : GoodIn wsL_law wsX9_match := goodIn_r _ [909, 162, 19, 396, 40, 24, 165, 166, 2, 167, 619, 620, 621, 39, 622, 623, 127, 624, 398, 399, 18, 400, 64, 63, 625, 626, 627, 628, 124, 125, 126, 910, 911, 912, 913, 914, 915, 916, 807, 630, 631, 632, 917, 918, 919, 920, 921, 922, 808, 634, 635, 636, 1016, 1017, 1018, 1019, 1020, 1021, 1022, 1023, 1024, 1025, 1026, 1027, 1061, 1062, 1063, 1064, 1065, 1075, 1076, 1077, 1078, 1066, 1084, 1085, 1086, 1087, 1088] (by decide +kernel) (by decide +kernel)
set_option maxRecDepth 20000 in
theorem gL_law_X9_match : GoodIn wsL_law (wsV RL 106 RX9 yX9_match wsX9_match) := goodIn_app (goodIn_of _ (by decide +kernel)) ggL_law_X9_match
