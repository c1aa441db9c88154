set_option maxRecDepth 20000 in
theorem ggL_law_X10_match : GoodIn wsL_law wsX10_match := goodIn_r _ [926, 177, 144, 180, 181, 5, 182, 646, 647, 648, 649, 578, 156, 143, 641, 414, 415, 416, 417, 146, 145, 650, 651, 652, 653, 157, 927, 928, 929, 930, 141, 142, 474, 475, 476, 477, 478, 479, 480, 1028, 1029, 1030, 1031, 1032, 1033, 1034, 1035, 1036, 1037, 1038, 1039, 1040, 1041, 1042, 1043, 1044, 1045, 1046, 1047, 1048, 1049, 1050, 1051, 1052, 1053] (by decide +kernel) (by decide +kernel)
set_option maxRecDepth 20000 in
theorem gL_law_X10_match : GoodIn wsL_law (wsV RL 109 RX10 yX10_match wsX10_match) := goodIn_app (goodIn_of _ (by decide +kernel)) ggL_law_X10_match
set_option maxRecDepth 20000 in
theorem ggL_law_X9_store : GoodIn wsL_law wsX9_store := goodIn_r _ [934, 388, 45, 935, 936, 937, 938, 2, 939, 165, 166, 167, 1016, 1017, 1018, 1019, 1020, 1021, 1022, 1023, 1024, 1025, 1026, 1027, 1079, 1080, 1081, 1082, 1083] (by decide +kernel) (by decide +kernel)
set_option maxRecDepth 20000 in
theorem gL_law_X9_store : GoodIn wsL_law (wsV RL 110 RX9 yX9_store wsX9_store) := goodIn_app (goodIn_of _ (by decide +kernel)) ggL_law_X9_store
set_option maxRecDepth 20000 in
theorem ggL_law_X10_store : GoodIn wsL_law wsX10_store := goodIn_r _ [943, 409, 150, 944, 945, 5, 946, 465, 180, 181, 182, 1028, 1029, 1030, 1031, 1032, 1033, 1034, 1035, 1036, 1037, 1038, 1039, 1040, 1041, 1042, 1043, 1044, 1045, 1046, 1047, 1048, 1049, 1050, 1051, 1052, 1053] (by decide +kernel) (by decide +kernel)
set_option maxRecDepth 20000 in
theorem gL_law_X10_store : GoodIn wsL_law (wsV RL 113 RX10 yX10_store wsX10_store) := goodIn_app (goodIn_of _ (by decide +kernel)) ggL_law_X10_store
set_option maxRecDepth 20000 in
theorem ggL_law_X9_put : GoodIn wsL_law wsX9_put := goodIn_r _ [950, 388, 162, 45, 937, 938, 2, 939, 165, 166, 167, 432, 433, 434, 951, 952, 953, 44, 954, 131, 955, 132, 956, 133, 134, 135, 1016, 1017, 1018, 1019, 1020, 1021, 1022, 1023, 1024, 1025, 1026, 1027, 1079, 1080, 1081, 1082, 1083] (by decide +kernel) (by decide +kernel)
set_option maxRecDepth 20000 in
theorem gL_law_X9_put : GoodIn wsL_law (wsV RL 114 RX9 yX9_put wsX9_put) := goodIn_app (goodIn_of _ (by decide +kernel)) ggL_law_X9_put
set_option maxRecDepth 20000 in
theorem ggL_law_X10_put : GoodIn wsL_law wsX10_put := goodIn_r _ [960, 409, 460, 461, 177, 150, 961, 962, 151, 152, 153, 944, 945, 5, 946, 465, 180, 181, 182, 1028, 1029, 1030, 1031, 1032, 1033, 1034, 1035, 1036, 1037, 1038, 1039, 1040, 1041, 1042, 1043, 1044, 1045, 1046, 1047, 1048, 1049, 1050, 1051, 1052, 1053] (by decide +kernel) (by decide +kernel)
set_option maxRecDepth 20000 in
theorem gL_law_X10_put : GoodIn wsL_law (wsV RL 117 RX10 yX10_put wsX10_put) := goodIn_app (goodIn_of _ (by decide +kernel)) ggL_law_X10_put
set_option maxRecDepth 20000 in
theorem ggL_law_X9_take : GoodIn wsL_law wsX9_take := goodIn_r _ [966, 388, 162, 45, 937, 938, 2, 939, 165, 166, 167, 967, 968, 969, 44, 970, 131, 955, 132, 971, 135, 972, 133, 134, 1016, 1017, 1018, 1019, 1020, 1021, 1022, 1023, 1024, 1025, 1026, 1027, 1079, 1080, 1081, 1082, 1083] (by decide +kernel) (by decide +kernel)
set_option maxRecDepth 20000 in
theorem gL_law_X9_take : GoodIn wsL_law (wsV RL 118 RX9 yX9_take wsX9_take) := goodIn_app (goodIn_of _ (by decide +kernel)) ggL_law_X9_take
set_option maxRecDepth 20000 in
theorem ggL_law_X10_take : GoodIn wsL_law wsX10_take := goodIn_r _ [976, 409, 177, 150, 961, 977, 151, 978, 152, 153, 944, 945, 5, 946, 465, 180, 181, 182, 1028, 1029, 1030, 1031, 1032, 1033, 1034, 1035, 1036, 1037, 1038, 1039, 1040, 1041, 1042, 1043, 1044, 1045, 1046, 1047, 1048, 1049, 1050, 1051, 1052, 1053] (by decide +kernel) (by decide +kernel)
set_option maxRecDepth 20000 in
theorem gL_law_X10_take : GoodIn wsL_law (wsV RL 121 RX10 yX10_take wsX10_take) := goodIn_app (goodIn_of _ (by decide +kernel)) ggL_law_X10_take
set_option maxRecDepth 20000 in
theorem ggL_law_X9_sum : GoodIn wsL_law wsX9_sum := goodIn_r _ [982, 388, 162, 45, 937, 938, 2, 939, 165, 166, 167, 983, 984, 985, 44, 986, 131, 955, 132, 135, 133, 134, 1016, 1017, 1018, 1019, 1020, 1021, 1022, 1023, 1024, 1025, 1026, 1027, 1079, 1080, 1081, 1082, 1083] (by decide +kernel) (by decide +kernel)
set_option maxRecDepth 20000 in
theorem gL_law_X9_sum : GoodIn wsL_law (wsV RL 122 RX9 yX9_sum wsX9_sum) := goodIn_app (goodIn_of _ (by decide +kernel)) ggL_law_X9_sum
set_option maxRecDepth 20000 in
theorem ggL_law_X10_sum : GoodIn wsL_law wsX10_sum := goodIn_r _ [990, 409, 465, 177, 150, 961, 152, 153, 151, 944, 945, 5, 946, 180, 181, 182, 1028, 1029, 1030, 1031, 1032, 1033, 1034, 1035, 1036, 1037, 1038, 1039, 1040, 1041, 1042, 1043, 1044, 1045, 1046, 1047, 1048, 1049, 1050, 1051, 1052, 1053] (by decide +kernel) (by decide +kernel)
set_option maxRecDepth 20000 in
theorem gL_law_X10_sum : GoodIn wsL_law (wsV RL 125 RX10 yX10_sum wsX10_sum) := goodIn_app (goodIn_of _ (by decide +kernel)) ggL_law_X10_sum
