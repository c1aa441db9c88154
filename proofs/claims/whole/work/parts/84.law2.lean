set_option maxRecDepth 20000 in
theorem ggL_law_X9_turn : GoodIn wsL_law wsX9_turn := goodIn_r _ [595, 29, 24, 435, 436, 437, 28, 438, 108, 110, 109, 439, 440, 441, 442, 443, 444, 445, 23, 446, 88, 447, 448, 449, 87, 450, 95, 96, 451, 452, 453, 94, 454, 100, 101, 102, 596, 597, 598, 599, 1016, 1017, 1018, 1019, 1020, 1021, 1022, 1023, 1024, 1025, 1026, 1027, 1067, 1068, 1069, 1066, 1084, 1085, 1086, 1087, 1088] (by decide +kernel) (by decide +kernel)
set_option maxRecDepth 20000 in
theorem gL_law_X9_turn : GoodIn wsL_law (wsV RL 49 RX9 yX9_turn wsX9_turn) := goodIn_app (goodIn_of _ (by decide +kernel)) ggL_law_X9_turn
set_option maxRecDepth 20000 in
theorem ggL_law_X10_turn : GoodIn wsL_law wsX10_turn := goodIn_r _ [603, 466, 467, 468, 5, 469, 383, 141, 142, 470, 471, 472, 473, 547, 548, 549, 550, 1028, 1029, 1030, 1031, 1032, 1033, 1034, 1035, 1036, 1037, 1038, 1039, 1040, 1041, 1042, 1043, 1044, 1045, 1046, 1047, 1048, 1049, 1050, 1051, 1052, 1053] (by decide +kernel) (by decide +kernel)
set_option maxRecDepth 20000 in
theorem gL_law_X10_turn : GoodIn wsL_law (wsV RL 52 RX10 yX10_turn wsX10_turn) := goodIn_app (goodIn_of _ (by decide +kernel)) ggL_law_X10_turn
set_option maxRecDepth 20000 in
theorem ggL_law_X9_load : GoodIn wsL_law wsX9_load := goodIn_r _ [607, 29, 24, 426, 427, 40, 608, 428, 609, 610, 611, 2, 612, 388, 162, 19, 164, 392, 393, 394, 395, 396, 165, 166, 167, 613, 614, 615, 616, 617, 618, 619, 620, 621, 39, 622, 623, 127, 624, 398, 399, 18, 400, 64, 63, 625, 626, 627, 628, 124, 125, 126, 435, 436, 437, 28, 438, 108, 110, 109, 439, 440, 441, 442, 443, 444, 445, 23, 446, 88, 447, 448, 449, 87, 450, 95, 96, 451, 452, 453, 94, 454, 100, 101, 102, 629, 630, 631, 632, 455, 363, 364, 365, 366, 367, 368, 369, 370, 371, 372, 373, 374, 633, 634, 635, 636, 1016, 1017, 1018, 1019, 1020, 1021, 1022, 1023, 1024, 1025, 1026, 1027, 1066, 1084, 1085, 1075, 1076, 1077, 1078, 1061, 1062, 1063, 1064, 1065, 1067, 1068, 1069, 1086, 1087, 1088] (by decide +kernel) (by decide +kernel)
set_option maxRecDepth 20000 in
theorem gL_law_X9_load : GoodIn wsL_law (wsV RL 53 RX9 yX9_load wsX9_load) := goodIn_app (goodIn_of _ (by decide +kernel)) ggL_law_X9_load
set_option maxRecDepth 20000 in
theorem ggL_law_X10_load : GoodIn wsL_law wsX10_load := goodIn_r _ [640, 409, 177, 641, 179, 157, 410, 411, 412, 5, 413, 144, 180, 181, 182, 642, 643, 644, 578, 645, 646, 647, 648, 649, 156, 143, 414, 415, 416, 417, 146, 145, 466, 467, 468, 469, 383, 141, 142, 470, 471, 472, 473, 650, 651, 652, 653, 474, 475, 476, 477, 478, 479, 480, 1028, 1029, 1030, 1031, 1032, 1033, 1034, 1035, 1036, 1037, 1038, 1039, 1040, 1041, 1042, 1043, 1044, 1045, 1046, 1047, 1048, 1049, 1050, 1051, 1052, 1053] (by decide +kernel) (by decide +kernel)
set_option maxRecDepth 20000 in
theorem gL_law_X10_load : GoodIn wsL_law (wsV RL 57 RX10 yX10_load wsX10_load) := goodIn_app (goodIn_of _ (by decide +kernel)) ggL_law_X10_load
set_option maxRecDepth 20000 in
theorem ggL_law_X9_undo : GoodIn wsL_law wsX9_undo := goodIn_r _ [657, 29, 24, 353, 164, 658, 659, 660, 28, 661, 109, 110, 108, 443, 444, 445, 23, 446, 88, 447, 448, 449, 87, 450, 95, 96, 451, 452, 453, 94, 454, 100, 101, 102, 1016, 1017, 1018, 1019, 1020, 1021, 1022, 1023, 1024, 1025, 1026, 1027, 1067, 1068, 1069, 1066, 1084, 1085, 1086, 1087, 1088] (by decide +kernel) (by decide +kernel)
set_option maxRecDepth 20000 in
theorem gL_law_X9_undo : GoodIn wsL_law (wsV RL 58 RX9 yX9_undo wsX9_undo) := goodIn_app (goodIn_of _ (by decide +kernel)) ggL_law_X9_undo
set_option maxRecDepth 20000 in
theorem ggL_law_X10_undo : GoodIn wsL_law wsX10_undo := goodIn_r _ [665, 383, 179, 470, 471, 472, 5, 473, 141, 142, 1028, 1029, 1030, 1031, 1032, 1033, 1034, 1035, 1036, 1037, 1038, 1039, 1040, 1041, 1042, 1043, 1044, 1045, 1046, 1047, 1048, 1049, 1050, 1051, 1052, 1053] (by decide +kernel) (by decide +kernel)
set_option maxRecDepth 20000 in
theorem gL_law_X10_undo : GoodIn wsL_law (wsV RL 61 RX10 yX10_undo wsX10_undo) := goodIn_app (goodIn_of _ (by decide +kernel)) ggL_law_X10_undo
set_option maxRecDepth 20000 in
theorem ggL_law_X9_keep : GoodIn wsL_law wsX9_keep := goodIn_r _ [669, 162, 30, 24, 32, 165, 166, 2, 167, 536, 444, 445, 23, 446, 88, 447, 448, 449, 87, 450, 95, 96, 451, 452, 453, 94, 454, 100, 101, 102, 1016, 1017, 1018, 1019, 1020, 1021, 1022, 1023, 1024, 1025, 1026, 1027, 1066, 1084, 1085, 1086, 1087, 1088] (by decide +kernel) (by decide +kernel)
set_option maxRecDepth 20000 in
theorem gL_law_X9_keep : GoodIn wsL_law (wsV RL 62 RX9 yX9_keep wsX9_keep) := goodIn_app (goodIn_of _ (by decide +kernel)) ggL_law_X9_keep
set_option maxRecDepth 20000 in
theorem ggL_law_X10_keep : GoodIn wsL_law wsX10_keep := goodIn_r _ [673, 177, 148, 180, 181, 5, 182, 470, 471, 472, 473, 141, 142, 1028, 1029, 1030, 1031, 1032, 1033, 1034, 1035, 1036, 1037, 1038, 1039, 1040, 1041, 1042, 1043, 1044, 1045, 1046, 1047, 1048, 1049, 1050, 1051, 1052, 1053] (by decide +kernel) (by decide +kernel)
set_option maxRecDepth 20000 in
theorem gL_law_X10_keep : GoodIn wsL_law (wsV RL 65 RX10 yX10_keep wsX10_keep) := goodIn_app (goodIn_of _ (by decide +kernel)) ggL_law_X10_keep
set_option maxRecDepth 20000 in
theorem ggL_law_X9_back : GoodIn wsL_law wsX9_back := goodIn_r _ [677, 162, 32, 164, 24, 30, 29, 353, 165, 166, 2, 167, 536, 444, 445, 23, 446, 88, 447, 448, 449, 87, 450, 95, 96, 451, 452, 453, 94, 454, 100, 101, 102, 1016, 1017, 1018, 1019, 1020, 1021, 1022, 1023, 1024, 1025, 1026, 1027, 1067, 1068, 1069, 1066, 1084, 1085, 1086, 1087, 1088] (by decide +kernel) (by decide +kernel)
set_option maxRecDepth 20000 in
theorem gL_law_X9_back : GoodIn wsL_law (wsV RL 66 RX9 yX9_back wsX9_back) := goodIn_app (goodIn_of _ (by decide +kernel)) ggL_law_X9_back
