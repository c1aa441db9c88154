set_option maxRecDepth 20000 in
theorem ggL_law_X10_net : GoodIn wsL_law wsX10_net := goodIn_r _ [382, 179, 141, 142, 178, 383, 148, 150, 300, 294, 295, 296, 5, 297, 298, 299, 144, 301, 293, 149, 302, 303, 304, 305, 306, 307, 308, 309, 310, 180, 181, 182, 311, 312, 313, 314, 315, 316, 317, 318, 319, 320, 321, 322, 323, 155, 324, 325, 326, 327, 328, 329, 330, 331, 154, 332, 333, 334, 335, 336, 337, 338, 339, 143, 146, 145, 147, 340, 341, 342, 343, 1028, 1029, 1030, 1031, 1032, 1033, 1034, 1035, 1036, 1037, 1038, 1039, 1040, 1041, 1042, 1043, 1044, 1045, 1046, 1047, 1048, 1049, 1050, 1051, 1052, 1053] (by decide +kernel) (by decide +kernel)
set_option maxRecDepth 20000 in
theorem gL_law_X10_net : GoodIn wsL_law (wsV RL 30 RX10 yX10_net wsX10_net) := goodIn_app (goodIn_of _ (by decide +kernel)) ggL_law_X10_net
set_option maxRecDepth 20000 in
theorem ggL_law_X9_bus : GoodIn wsL_law wsX9_bus := goodIn_r _ [387, 388, 19, 389, 390, 391, 162, 392, 393, 394, 2, 395, 396, 165, 166, 167, 397, 398, 399, 18, 400, 64, 63, 401, 402, 403, 404, 1016, 1017, 1018, 1019, 1020, 1021, 1022, 1023, 1024, 1025, 1026, 1027, 1061, 1062, 1063, 1064, 1065] (by decide +kernel) (by decide +kernel)
set_option maxRecDepth 20000 in
theorem gL_law_X9_bus : GoodIn wsL_law (wsV RL 31 RX9 yX9_bus wsX9_bus) := goodIn_app (goodIn_of _ (by decide +kernel)) ggL_law_X9_bus
set_option maxRecDepth 20000 in
theorem ggL_law_X10_bus : GoodIn wsL_law wsX10_bus := goodIn_r _ [408, 409, 145, 146, 147, 177, 410, 411, 412, 5, 413, 144, 180, 181, 182, 414, 415, 416, 417, 418, 419, 420, 421, 1028, 1029, 1030, 1031, 1032, 1033, 1034, 1035, 1036, 1037, 1038, 1039, 1040, 1041, 1042, 1043, 1044, 1045, 1046, 1047, 1048, 1049, 1050, 1051, 1052, 1053] (by decide +kernel) (by decide +kernel)
set_option maxRecDepth 20000 in
theorem gL_law_X10_bus : GoodIn wsL_law (wsV RL 35 RX10 yX10_bus wsX10_bus) := goodIn_app (goodIn_of _ (by decide +kernel)) ggL_law_X10_bus
set_option maxRecDepth 20000 in
theorem ggL_law_X9_phase : GoodIn wsL_law wsX9_phase := goodIn_r _ [425, 388, 162, 29, 24, 426, 427, 428, 429, 430, 2, 431, 165, 166, 167, 432, 433, 434, 435, 436, 437, 28, 438, 108, 110, 109, 439, 440, 441, 442, 443, 444, 445, 23, 446, 88, 447, 448, 449, 87, 450, 95, 96, 451, 452, 453, 94, 454, 100, 101, 102, 455, 363, 364, 365, 366, 367, 368, 369, 370, 371, 372, 373, 374, 1016, 1017, 1018, 1019, 1020, 1021, 1022, 1023, 1024, 1025, 1026, 1027, 1066, 1084, 1085, 1067, 1068, 1069, 1086, 1087, 1088] (by decide +kernel) (by decide +kernel)
set_option maxRecDepth 20000 in
theorem gL_law_X9_phase : GoodIn wsL_law (wsV RL 36 RX9 yX9_phase wsX9_phase) := goodIn_app (goodIn_of _ (by decide +kernel)) ggL_law_X9_phase
set_option maxRecDepth 20000 in
theorem ggL_law_X10_phase : GoodIn wsL_law wsX10_phase := goodIn_r _ [459, 409, 460, 461, 177, 462, 463, 5, 464, 465, 180, 181, 182, 466, 467, 468, 469, 383, 141, 142, 470, 471, 472, 473, 474, 475, 476, 477, 478, 479, 480, 1028, 1029, 1030, 1031, 1032, 1033, 1034, 1035, 1036, 1037, 1038, 1039, 1040, 1041, 1042, 1043, 1044, 1045, 1046, 1047, 1048, 1049, 1050, 1051, 1052, 1053] (by decide +kernel) (by decide +kernel)
set_option maxRecDepth 20000 in
theorem gL_law_X10_phase : GoodIn wsL_law (wsV RL 40 RX10 yX10_phase wsX10_phase) := goodIn_app (goodIn_of _ (by decide +kernel)) ggL_law_X10_phase
set_option maxRecDepth 20000 in
theorem ggL_law_X9_split : GoodIn wsL_law wsX9_split := goodIn_r _ [484, 36, 24, 485, 25, 426, 486, 487, 488, 35, 489, 490, 491, 448, 449, 87, 450, 95, 96, 451, 452, 453, 94, 454, 100, 101, 102, 492, 493, 494, 495, 116, 496, 497, 498, 499, 500, 501, 502, 503, 368, 369, 370, 371, 372, 373, 374, 504, 363, 364, 365, 366, 367, 505, 506, 507, 508, 509, 510, 511, 512, 513, 514, 515, 516, 517, 518, 519, 520, 521, 522, 523, 524, 2, 525, 526, 29, 527, 528, 529, 23, 530, 88, 531, 532, 533, 534, 535, 435, 436, 437, 28, 438, 108, 110, 109, 439, 440, 441, 442, 443, 444, 445, 446, 447, 536, 1016, 1017, 1018, 1019, 1020, 1021, 1022, 1023, 1024, 1025, 1026, 1027, 1066, 1084, 1085, 1086, 1087, 1088, 1070, 1071, 1072, 1073, 1074, 1067, 1068, 1069] (by decide +kernel) (by decide +kernel)
set_option maxRecDepth 20000 in
theorem gL_law_X9_split : GoodIn wsL_law (wsV RL 41 RX9 yX9_split wsX9_split) := goodIn_app (goodIn_of _ (by decide +kernel)) ggL_law_X9_split
set_option maxRecDepth 20000 in
theorem ggL_law_X10_split : GoodIn wsL_law wsX10_split := goodIn_r _ [540, 541, 542, 543, 5, 544, 545, 546, 547, 548, 549, 550, 141, 142, 551, 552, 553, 554, 555, 556, 557, 558, 559, 560, 561, 562, 563, 564, 565, 566, 567, 568, 569, 474, 475, 476, 477, 478, 479, 480, 180, 181, 182, 570, 571, 572, 573, 574, 575, 576, 577, 578, 579, 580, 581, 582, 466, 467, 468, 469, 383, 470, 471, 472, 473, 1028, 1029, 1030, 1031, 1032, 1033, 1034, 1035, 1036, 1037, 1038, 1039, 1040, 1041, 1042, 1043, 1044, 1045, 1046, 1047, 1048, 1049, 1050, 1051, 1052, 1053] (by decide +kernel) (by decide +kernel)
set_option maxRecDepth 20000 in
theorem gL_law_X10_split : GoodIn wsL_law (wsV RL 44 RX10 yX10_split wsX10_split) := goodIn_app (goodIn_of _ (by decide +kernel)) ggL_law_X10_split
set_option maxRecDepth 20000 in
theorem ggL_law_X9_join : GoodIn wsL_law wsX9_join := goodIn_r _ [586, 36, 24, 587, 25, 486, 487, 488, 35, 489, 490, 491, 448, 449, 87, 450, 95, 96, 451, 452, 453, 94, 454, 100, 101, 102, 492, 493, 494, 495, 116, 496, 497, 498, 499, 500, 501, 502, 503, 368, 369, 370, 371, 372, 373, 374, 504, 363, 364, 365, 366, 367, 505, 506, 507, 508, 509, 510, 511, 512, 522, 523, 524, 2, 525, 526, 29, 527, 528, 529, 23, 530, 88, 531, 532, 533, 534, 535, 435, 436, 437, 28, 438, 108, 110, 109, 439, 440, 441, 442, 443, 444, 445, 446, 447, 536, 1016, 1017, 1018, 1019, 1020, 1021, 1022, 1023, 1024, 1025, 1026, 1027, 1066, 1084, 1085, 1086, 1087, 1088, 1070, 1071, 1072, 1073, 1074, 1067, 1068, 1069] (by decide +kernel) (by decide +kernel)
set_option maxRecDepth 20000 in
theorem gL_law_X9_join : GoodIn wsL_law (wsV RL 45 RX9 yX9_join wsX9_join) := goodIn_app (goodIn_of _ (by decide +kernel)) ggL_law_X9_join
set_option maxRecDepth 20000 in
theorem ggL_law_X10_join : GoodIn wsL_law wsX10_join := goodIn_r _ [591, 541, 542, 543, 5, 544, 545, 546, 547, 548, 549, 550, 141, 142, 551, 552, 553, 554, 555, 556, 557, 558, 559, 560, 561, 562, 563, 564, 565, 566, 567, 568, 569, 474, 475, 476, 477, 478, 479, 480, 180, 181, 182, 570, 571, 572, 573, 574, 575, 576, 577, 578, 579, 580, 581, 582, 466, 467, 468, 469, 383, 470, 471, 472, 473, 1028, 1029, 1030, 1031, 1032, 1033, 1034, 1035, 1036, 1037, 1038, 1039, 1040, 1041, 1042, 1043, 1044, 1045, 1046, 1047, 1048, 1049, 1050, 1051, 1052, 1053] (by decide +kernel) (by decide +kernel)
set_option maxRecDepth 20000 in
theorem gL_law_X10_join : GoodIn wsL_law (wsV RL 48 RX10 yX10_join wsX10_join) := goodIn_app (goodIn_of _ (by decide +kernel)) ggL_law_X10_join
