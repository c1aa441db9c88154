theorem dX9_askFault_0 : decode cX9_askFault 0 = .ok (.aload_n 0, 1) := by decide +kernel
theorem dX9_askFault_1 : decode cX9_askFault 1 = .ok (.iload_n 2, 1) := by decide +kernel
theorem dX9_askFault_2 : decode cX9_askFault 2 = .ok (.invokevirtual 103, 3) := by decide +kernel
theorem dX9_askFault_5 : decode cX9_askFault 5 = .ok (.ifCond .eq 6, 3) := by decide +kernel
theorem dX9_askFault_8 : decode cX9_askFault 8 = .ok (.ldc 106, 2) := by decide +kernel
theorem dX9_askFault_10 : decode cX9_askFault 10 = .ok (.ireturn, 1) := by decide +kernel
theorem dX9_askFault_11 : decode cX9_askFault 11 = .ok (.iload_n 1, 1) := by decide +kernel
theorem dX9_askFault_12 : decode cX9_askFault 12 = .ok (.invokestatic 258, 3) := by decide +kernel
theorem dX9_askFault_15 : decode cX9_askFault 15 = .ok (.ifCond .ne 15, 3) := by decide +kernel
theorem dX9_askFault_18 : decode cX9_askFault 18 = .ok (.iload_n 3, 1) := by decide +kernel
theorem dX9_askFault_19 : decode cX9_askFault 19 = .ok (.invokestatic 261, 3) := by decide +kernel
theorem dX9_askFault_22 : decode cX9_askFault 22 = .ok (.ifCond .ne 8, 3) := by decide +kernel
theorem dX9_askFault_25 : decode cX9_askFault 25 = .ok (.iload 4, 2) := by decide +kernel
theorem dX9_askFault_27 : decode cX9_askFault 27 = .ok (.ifCond .eq 6, 3) := by decide +kernel
theorem dX9_askFault_30 : decode cX9_askFault 30 = .ok (.ldc 79, 2) := by decide +kernel
theorem dX9_askFault_32 : decode cX9_askFault 32 = .ok (.ireturn, 1) := by decide +kernel
theorem dX9_askFault_33 : decode cX9_askFault 33 = .ok (.aload_n 0, 1) := by decide +kernel
theorem dX9_askFault_34 : decode cX9_askFault 34 = .ok (.getfield 61, 3) := by decide +kernel
theorem dX9_askFault_37 : decode cX9_askFault 37 = .ok (.aload_n 0, 1) := by decide +kernel
theorem dX9_askFault_38 : decode cX9_askFault 38 = .ok (.getfield 19, 3) := by decide +kernel
theorem dX9_askFault_41 : decode cX9_askFault 41 = .ok (.iload_n 1, 1) := by decide +kernel
theorem dX9_askFault_42 : decode cX9_askFault 42 = .ok (.iload_n 2, 1) := by decide +kernel
theorem dX9_askFault_43 : decode cX9_askFault 43 = .ok (.iload_n 3, 1) := by decide +kernel
theorem dX9_askFault_44 : decode cX9_askFault 44 = .ok (.invokevirtual 264, 3) := by decide +kernel
theorem dX9_askFault_47 : decode cX9_askFault 47 = .ok (.ifCond .eq 7, 3) := by decide +kernel
theorem dX9_askFault_50 : decode cX9_askFault 50 = .ok (.iconst 0, 1) := by decide +kernel
theorem dX9_askFault_51 : decode cX9_askFault 51 = .ok (.goto 5, 3) := by decide +kernel
theorem dX9_askFault_54 : decode cX9_askFault 54 = .ok (.ldc 88, 2) := by decide +kernel
theorem dX9_askFault_56 : decode cX9_askFault 56 = .ok (.ireturn, 1) := by decide +kernel
set_option maxRecDepth 20000 in
theorem ggX9_takeResult_X8_isOver : GoodIn wsX9_takeResult wsX8_isOver := goodIn_r _ [9, 10, 11, 12, 13, 14, 15, 16, 17, 18, 60, 61, 62, 63, 64, 65] (by decide +kernel) (by decide +kernel)
set_option maxRecDepth 20000 in
theorem gX9_takeResult_X8_isOver : GoodIn wsX9_takeResult (wsV RX9 300 RX8 yX8_isOver wsX8_isOver) := goodIn_app (goodIn_of _ (by decide +kernel)) ggX9_takeResult_X8_isOver
set_option maxRecDepth 20000 in
theorem ggX9_takeResult_X3_add : GoodIn wsX9_takeResult wsX3_add := goodIn_r _ [23, 24, 25, 26, 27, 28, 29, 30, 31, 32, 33, 8, 34, 10, 35, 36, 37, 14, 38, 16, 18, 39, 40, 41, 42, 43, 44, 45, 46, 66, 67, 68, 60, 61, 62, 63, 64, 65] (by decide +kernel) (by decide +kernel)
set_option maxRecDepth 20000 in
theorem gX9_takeResult_X3_add : GoodIn wsX9_takeResult (wsV RX9 131 RX3 yX3_add wsX3_add) := goodIn_app (goodIn_of _ (by decide +kernel)) ggX9_takeResult_X3_add
set_option maxRecDepth 20000 in
theorem ggX9_takeResult_X8_become : GoodIn wsX9_takeResult wsX8_become := goodIn_r _ [34, 10, 35, 36, 37, 14, 38, 16, 18, 39, 40, 41, 42, 43, 44, 45, 46, 60, 61, 62, 63, 64, 65] (by decide +kernel) (by decide +kernel)
set_option maxRecDepth 20000 in
theorem gX9_takeResult_X8_become : GoodIn wsX9_takeResult (wsV RX9 193 RX8 yX8_become wsX8_become) := goodIn_app (goodIn_of _ (by decide +kernel)) ggX9_takeResult_X8_become
theorem dX9_takeResult_0 : decode cX9_takeResult 0 = .ok (.aload_n 0, 1) := by decide +kernel
theorem dX9_takeResult_1 : decode cX9_takeResult 1 = .ok (.getfield 33, 3) := by decide +kernel
theorem dX9_takeResult_4 : decode cX9_takeResult 4 = .ok (.invokevirtual 300, 3) := by decide +kernel
theorem dX9_takeResult_7 : decode cX9_takeResult 7 = .ok (.ifCond .eq 6, 3) := by decide +kernel
theorem dX9_takeResult_10 : decode cX9_takeResult 10 = .ok (.ldc 226, 2) := by decide +kernel
theorem dX9_takeResult_12 : decode cX9_takeResult 12 = .ok (.ireturn, 1) := by decide +kernel
theorem dX9_takeResult_13 : decode cX9_takeResult 13 = .ok (.aload_n 0, 1) := by decide +kernel
theorem dX9_takeResult_14 : decode cX9_takeResult 14 = .ok (.getfield 39, 3) := by decide +kernel
theorem dX9_takeResult_17 : decode cX9_takeResult 17 = .ok (.aload_n 0, 1) := by decide +kernel
theorem dX9_takeResult_18 : decode cX9_takeResult 18 = .ok (.getfield 29, 3) := by decide +kernel
theorem dX9_takeResult_21 : decode cX9_takeResult 21 = .ok (.invokevirtual 131, 3) := by decide +kernel
theorem dX9_takeResult_24 : decode cX9_takeResult 24 = .ok (.aload_n 0, 1) := by decide +kernel
theorem dX9_takeResult_25 : decode cX9_takeResult 25 = .ok (.getfield 29, 3) := by decide +kernel
theorem dX9_takeResult_28 : decode cX9_takeResult 28 = .ok (.aload_n 0, 1) := by decide +kernel
theorem dX9_takeResult_29 : decode cX9_takeResult 29 = .ok (.getfield 33, 3) := by decide +kernel
theorem dX9_takeResult_32 : decode cX9_takeResult 32 = .ok (.invokevirtual 193, 3) := by decide +kernel
theorem dX9_takeResult_35 : decode cX9_takeResult 35 = .ok (.iconst 1, 1) := by decide +kernel
theorem dX9_takeResult_36 : decode cX9_takeResult 36 = .ok (.ireturn, 1) := by decide +kernel
theorem dX9_thingsOfAllStores_0 : decode cX9_thingsOfAllStores 0 = .ok (.iconst 0, 1) := by decide +kernel
theorem dX9_thingsOfAllStores_1 : decode cX9_thingsOfAllStores 1 = .ok (.istore_n 1, 1) := by decide +kernel
theorem dX9_thingsOfAllStores_2 : decode cX9_thingsOfAllStores 2 = .ok (.iconst 0, 1) := by decide +kernel
theorem dX9_thingsOfAllStores_3 : decode cX9_thingsOfAllStores 3 = .ok (.istore_n 2, 1) := by decide +kernel
theorem dX9_thingsOfAllStores_4 : decode cX9_thingsOfAllStores 4 = .ok (.iload_n 2, 1) := by decide +kernel
theorem dX9_thingsOfAllStores_5 : decode cX9_thingsOfAllStores 5 = .ok (.iconst 3, 1) := by decide +kernel
theorem dX9_thingsOfAllStores_6 : decode cX9_thingsOfAllStores 6 = .ok (.if_icmp .ge 21, 3) := by decide +kernel
theorem dX9_thingsOfAllStores_9 : decode cX9_thingsOfAllStores 9 = .ok (.iload_n 1, 1) := by decide +kernel
theorem dX9_thingsOfAllStores_10 : decode cX9_thingsOfAllStores 10 = .ok (.aload_n 0, 1) := by decide +kernel
theorem dX9_thingsOfAllStores_11 : decode cX9_thingsOfAllStores 11 = .ok (.getfield 71, 3) := by decide +kernel
theorem dX9_thingsOfAllStores_14 : decode cX9_thingsOfAllStores 14 = .ok (.iload_n 2, 1) := by decide +kernel
theorem dX9_thingsOfAllStores_15 : decode cX9_thingsOfAllStores 15 = .ok (.aaload, 1) := by decide +kernel
theorem dX9_thingsOfAllStores_16 : decode cX9_thingsOfAllStores 16 = .ok (.getfield 282, 3) := by decide +kernel
theorem dX9_thingsOfAllStores_19 : decode cX9_thingsOfAllStores 19 = .ok (.iadd, 1) := by decide +kernel
theorem dX9_thingsOfAllStores_20 : decode cX9_thingsOfAllStores 20 = .ok (.istore_n 1, 1) := by decide +kernel
theorem dX9_thingsOfAllStores_21 : decode cX9_thingsOfAllStores 21 = .ok (.iinc 2 1, 3) := by decide +kernel
theorem dX9_thingsOfAllStores_24 : decode cX9_thingsOfAllStores 24 = .ok (.goto (-20), 3) := by decide +kernel
theorem dX9_thingsOfAllStores_27 : decode cX9_thingsOfAllStores 27 = .ok (.iload_n 1, 1) := by decide +kernel
theorem dX9_thingsOfAllStores_28 : decode cX9_thingsOfAllStores 28 = .ok (.ireturn, 1) := by decide +kernel
set_option maxRecDepth 20000 in
theorem ggX9_startAnew_X8_clear : GoodIn wsX9_startAnew wsX8_clear := goodIn_r _ [10, 11, 12, 13, 14, 15, 16, 17, 18, 19, 20, 21, 22, 23, 24, 25, 26, 27, 28, 29, 30, 31, 32, 33, 34, 35, 58, 59, 60, 61, 62, 63] (by decide +kernel) (by decide +kernel)
set_option maxRecDepth 20000 in
theorem gX9_startAnew_X8_clear : GoodIn wsX9_startAnew (wsV RX9 301 RX8 yX8_clear wsX8_clear) := goodIn_app (goodIn_of _ (by decide +kernel)) ggX9_startAnew_X8_clear
set_option maxRecDepth 20000 in
theorem ggX9_startAnew_X6_vanish : GoodIn wsX9_startAnew wsX6_vanish := goodIn_r _ [40, 41, 42, 64, 65, 66, 67, 68] (by decide +kernel) (by decide +kernel)
set_option maxRecDepth 20000 in
theorem gX9_startAnew_X6_vanish : GoodIn wsX9_startAnew (wsV RX9 293 RX6 yX6_vanish wsX6_vanish) := goodIn_app (goodIn_of _ (by decide +kernel)) ggX9_startAnew_X6_vanish
theorem dX9_startAnew_0 : decode cX9_startAnew 0 = .ok (.aload_n 0, 1) := by decide +kernel
theorem dX9_startAnew_1 : decode cX9_startAnew 1 = .ok (.getfield 29, 3) := by decide +kernel
theorem dX9_startAnew_4 : decode cX9_startAnew 4 = .ok (.invokevirtual 301, 3) := by decide +kernel
theorem dX9_startAnew_7 : decode cX9_startAnew 7 = .ok (.aload_n 0, 1) := by decide +kernel
theorem dX9_startAnew_8 : decode cX9_startAnew 8 = .ok (.getfield 39, 3) := by decide +kernel
theorem dX9_startAnew_11 : decode cX9_startAnew 11 = .ok (.iconst 0, 1) := by decide +kernel
theorem dX9_startAnew_12 : decode cX9_startAnew 12 = .ok (.putfield 190, 3) := by decide +kernel
theorem dX9_startAnew_15 : decode cX9_startAnew 15 = .ok (.iconst 0, 1) := by decide +kernel
theorem dX9_startAnew_16 : decode cX9_startAnew 16 = .ok (.istore_n 1, 1) := by decide +kernel
theorem dX9_startAnew_17 : decode cX9_startAnew 17 = .ok (.iload_n 1, 1) := by decide +kernel
theorem dX9_startAnew_18 : decode cX9_startAnew 18 = .ok (.iconst 2, 1) := by decide +kernel
theorem dX9_startAnew_19 : decode cX9_startAnew 19 = .ok (.if_icmp .ge 16, 3) := by decide +kernel
theorem dX9_startAnew_22 : decode cX9_startAnew 22 = .ok (.aload_n 0, 1) := by decide +kernel
theorem dX9_startAnew_23 : decode cX9_startAnew 23 = .ok (.getfield 47, 3) := by decide +kernel
theorem dX9_startAnew_26 : decode cX9_startAnew 26 = .ok (.iload_n 1, 1) := by decide +kernel
theorem dX9_startAnew_27 : decode cX9_startAnew 27 = .ok (.iconst 0, 1) := by decide +kernel
theorem dX9_startAnew_28 : decode cX9_startAnew 28 = .ok (.bastore, 1) := by decide +kernel
theorem dX9_startAnew_29 : decode cX9_startAnew 29 = .ok (.iinc 1 1, 3) := by decide +kernel
theorem dX9_startAnew_32 : decode cX9_startAnew 32 = .ok (.goto (-15), 3) := by decide +kernel
theorem dX9_startAnew_35 : decode cX9_startAnew 35 = .ok (.iconst 0, 1) := by decide +kernel
theorem dX9_startAnew_36 : decode cX9_startAnew 36 = .ok (.istore_n 1, 1) := by decide +kernel
theorem dX9_startAnew_37 : decode cX9_startAnew 37 = .ok (.iload_n 1, 1) := by decide +kernel
theorem dX9_startAnew_38 : decode cX9_startAnew 38 = .ok (.iconst 3, 1) := by decide +kernel
theorem dX9_startAnew_39 : decode cX9_startAnew 39 = .ok (.if_icmp .ge 19, 3) := by decide +kernel
theorem dX9_startAnew_42 : decode cX9_startAnew 42 = .ok (.aload_n 0, 1) := by decide +kernel
theorem dX9_startAnew_43 : decode cX9_startAnew 43 = .ok (.getfield 71, 3) := by decide +kernel
theorem dX9_startAnew_46 : decode cX9_startAnew 46 = .ok (.iload_n 1, 1) := by decide +kernel
theorem dX9_startAnew_47 : decode cX9_startAnew 47 = .ok (.aaload, 1) := by decide +kernel
theorem dX9_startAnew_48 : decode cX9_startAnew 48 = .ok (.invokevirtual 293, 3) := by decide +kernel
theorem dX9_startAnew_51 : decode cX9_startAnew 51 = .ok (.pop, 1) := by decide +kernel
theorem dX9_startAnew_52 : decode cX9_startAnew 52 = .ok (.iinc 1 1, 3) := by decide +kernel
theorem dX9_startAnew_55 : decode cX9_startAnew 55 = .ok (.goto (-18), 3) := by decide +kernel
theorem dX9_startAnew_58 : decode cX9_startAnew 58 = .ok (.return_, 1) := by decide +kernel
theorem dX10_init_0 : decode cX10_init 0 = .ok (.aload_n 0, 1) := by decide +kernel
theorem dX10_init_1 : decode cX10_init 1 = .ok (.invokespecial 1, 3) := by decide +kernel
theorem dX10_init_4 : decode cX10_init 4 = .ok (.aload_n 0, 1) := by decide +kernel
theorem dX10_init_5 : decode cX10_init 5 = .ok (.bipush 88, 2) := by decide +kernel
theorem dX10_init_7 : decode cX10_init 7 = .ok (.newarray .long, 2) := by decide +kernel
theorem dX10_init_9 : decode cX10_init 9 = .ok (.putfield 7, 3) := by decide +kernel
theorem dX10_init_12 : decode cX10_init 12 = .ok (.aload_n 0, 1) := by decide +kernel
theorem dX10_init_13 : decode cX10_init 13 = .ok (.bipush 88, 2) := by decide +kernel
theorem dX10_init_15 : decode cX10_init 15 = .ok (.newarray .long, 2) := by decide +kernel
theorem dX10_init_17 : decode cX10_init 17 = .ok (.putfield 13, 3) := by decide +kernel
theorem dX10_init_20 : decode cX10_init 20 = .ok (.aload_n 0, 1) := by decide +kernel
theorem dX10_init_21 : decode cX10_init 21 = .ok (.bipush 50, 2) := by decide +kernel
theorem dX10_init_23 : decode cX10_init 23 = .ok (.putfield 16, 3) := by decide +kernel
theorem dX10_init_26 : decode cX10_init 26 = .ok (.aload_n 0, 1) := by decide +kernel
theorem dX10_init_27 : decode cX10_init 27 = .ok (.iconst 1, 1) := by decide +kernel
theorem dX10_init_28 : decode cX10_init 28 = .ok (.putfield 20, 3) := by decide +kernel
theorem dX10_init_31 : decode cX10_init 31 = .ok (.aload_n 0, 1) := by decide +kernel
theorem dX10_init_32 : decode cX10_init 32 = .ok (.bipush 6, 2) := by decide +kernel
theorem dX10_init_34 : decode cX10_init 34 = .ok (.newarray .int, 2) := by decide +kernel
theorem dX10_init_36 : decode cX10_init 36 = .ok (.putfield 23, 3) := by decide +kernel
theorem dX10_init_39 : decode cX10_init 39 = .ok (.aload_n 0, 1) := by decide +kernel
theorem dX10_init_40 : decode cX10_init 40 = .ok (.bipush 18, 2) := by decide +kernel
theorem dX10_init_42 : decode cX10_init 42 = .ok (.newarray .int, 2) := by decide +kernel
theorem dX10_init_44 : decode cX10_init 44 = .ok (.dup, 1) := by decide +kernel
theorem dX10_init_45 : decode cX10_init 45 = .ok (.iconst 0, 1) := by decide +kernel
theorem dX10_init_46 : decode cX10_init 46 = .ok (.iconst 1, 1) := by decide +kernel
theorem dX10_init_47 : decode cX10_init 47 = .ok (.iastore, 1) := by decide +kernel
theorem dX10_init_48 : decode cX10_init 48 = .ok (.dup, 1) := by decide +kernel
theorem dX10_init_49 : decode cX10_init 49 = .ok (.iconst 1, 1) := by decide +kernel
theorem dX10_init_50 : decode cX10_init 50 = .ok (.iconst 1, 1) := by decide +kernel
theorem dX10_init_51 : decode cX10_init 51 = .ok (.iastore, 1) := by decide +kernel
theorem dX10_init_52 : decode cX10_init 52 = .ok (.dup, 1) := by decide +kernel
theorem dX10_init_53 : decode cX10_init 53 = .ok (.iconst 2, 1) := by decide +kernel
theorem dX10_init_54 : decode cX10_init 54 = .ok (.iconst 1, 1) := by decide +kernel
theorem dX10_init_55 : decode cX10_init 55 = .ok (.iastore, 1) := by decide +kernel
theorem dX10_init_56 : decode cX10_init 56 = .ok (.dup, 1) := by decide +kernel
theorem dX10_init_57 : decode cX10_init 57 = .ok (.iconst 3, 1) := by decide +kernel
theorem dX10_init_58 : decode cX10_init 58 = .ok (.iconst 0, 1) := by decide +kernel
theorem dX10_init_59 : decode cX10_init 59 = .ok (.iastore, 1) := by decide +kernel
theorem dX10_init_60 : decode cX10_init 60 = .ok (.dup, 1) := by decide +kernel
theorem dX10_init_61 : decode cX10_init 61 = .ok (.iconst 4, 1) := by decide +kernel
theorem dX10_init_62 : decode cX10_init 62 = .ok (.iconst 0, 1) := by decide +kernel
theorem dX10_init_63 : decode cX10_init 63 = .ok (.iastore, 1) := by decide +kernel
theorem dX10_init_64 : decode cX10_init 64 = .ok (.dup, 1) := by decide +kernel
theorem dX10_init_65 : decode cX10_init 65 = .ok (.iconst 5, 1) := by decide +kernel
theorem dX10_init_66 : decode cX10_init 66 = .ok (.iconst 0, 1) := by decide +kernel
theorem dX10_init_67 : decode cX10_init 67 = .ok (.iastore, 1) := by decide +kernel
theorem dX10_init_68 : decode cX10_init 68 = .ok (.dup, 1) := by decide +kernel
theorem dX10_init_69 : decode cX10_init 69 = .ok (.bipush 6, 2) := by decide +kernel
theorem dX10_init_71 : decode cX10_init 71 = .ok (.iconst 0, 1) := by decide +kernel
theorem dX10_init_72 : decode cX10_init 72 = .ok (.iastore, 1) := by decide +kernel
theorem dX10_init_73 : decode cX10_init 73 = .ok (.dup, 1) := by decide +kernel
theorem dX10_init_74 : decode cX10_init 74 = .ok (.bipush 7, 2) := by decide +kernel
theorem dX10_init_76 : decode cX10_init 76 = .ok (.iconst 0, 1) := by decide +kernel
theorem dX10_init_77 : decode cX10_init 77 = .ok (.iastore, 1) := by decide +kernel
theorem dX10_init_78 : decode cX10_init 78 = .ok (.dup, 1) := by decide +kernel
theorem dX10_init_79 : decode cX10_init 79 = .ok (.bipush 8, 2) := by decide +kernel
theorem dX10_init_81 : decode cX10_init 81 = .ok (.iconst 0, 1) := by decide +kernel
theorem dX10_init_82 : decode cX10_init 82 = .ok (.iastore, 1) := by decide +kernel
theorem dX10_init_83 : decode cX10_init 83 = .ok (.dup, 1) := by decide +kernel
theorem dX10_init_84 : decode cX10_init 84 = .ok (.bipush 9, 2) := by decide +kernel
theorem dX10_init_86 : decode cX10_init 86 = .ok (.iconst 0, 1) := by decide +kernel
theorem dX10_init_87 : decode cX10_init 87 = .ok (.iastore, 1) := by decide +kernel
theorem dX10_init_88 : decode cX10_init 88 = .ok (.dup, 1) := by decide +kernel
theorem dX10_init_89 : decode cX10_init 89 = .ok (.bipush 10, 2) := by decide +kernel
theorem dX10_init_91 : decode cX10_init 91 = .ok (.iconst 0, 1) := by decide +kernel
theorem dX10_init_92 : decode cX10_init 92 = .ok (.iastore, 1) := by decide +kernel
theorem dX10_init_93 : decode cX10_init 93 = .ok (.dup, 1) := by decide +kernel
theorem dX10_init_94 : decode cX10_init 94 = .ok (.bipush 11, 2) := by decide +kernel
theorem dX10_init_96 : decode cX10_init 96 = .ok (.iconst 0, 1) := by decide +kernel
theorem dX10_init_97 : decode cX10_init 97 = .ok (.iastore, 1) := by decide +kernel
theorem dX10_init_98 : decode cX10_init 98 = .ok (.dup, 1) := by decide +kernel
theorem dX10_init_99 : decode cX10_init 99 = .ok (.bipush 12, 2) := by decide +kernel
theorem dX10_init_101 : decode cX10_init 101 = .ok (.iconst 0, 1) := by decide +kernel
theorem dX10_init_102 : decode cX10_init 102 = .ok (.iastore, 1) := by decide +kernel
theorem dX10_init_103 : decode cX10_init 103 = .ok (.dup, 1) := by decide +kernel
theorem dX10_init_104 : decode cX10_init 104 = .ok (.bipush 13, 2) := by decide +kernel
theorem dX10_init_106 : decode cX10_init 106 = .ok (.iconst 0, 1) := by decide +kernel
theorem dX10_init_107 : decode cX10_init 107 = .ok (.iastore, 1) := by decide +kernel
theorem dX10_init_108 : decode cX10_init 108 = .ok (.dup, 1) := by decide +kernel
theorem dX10_init_109 : decode cX10_init 109 = .ok (.bipush 14, 2) := by decide +kernel
theorem dX10_init_111 : decode cX10_init 111 = .ok (.iconst 0, 1) := by decide +kernel
theorem dX10_init_112 : decode cX10_init 112 = .ok (.iastore, 1) := by decide +kernel
theorem dX10_init_113 : decode cX10_init 113 = .ok (.dup, 1) := by decide +kernel
theorem dX10_init_114 : decode cX10_init 114 = .ok (.bipush 15, 2) := by decide +kernel
theorem dX10_init_116 : decode cX10_init 116 = .ok (.iconst 0, 1) := by decide +kernel
theorem dX10_init_117 : decode cX10_init 117 = .ok (.iastore, 1) := by decide +kernel
theorem dX10_init_118 : decode cX10_init 118 = .ok (.dup, 1) := by decide +kernel
theorem dX10_init_119 : decode cX10_init 119 = .ok (.bipush 16, 2) := by decide +kernel
theorem dX10_init_121 : decode cX10_init 121 = .ok (.iconst 0, 1) := by decide +kernel
theorem dX10_init_122 : decode cX10_init 122 = .ok (.iastore, 1) := by decide +kernel
theorem dX10_init_123 : decode cX10_init 123 = .ok (.dup, 1) := by decide +kernel
theorem dX10_init_124 : decode cX10_init 124 = .ok (.bipush 17, 2) := by decide +kernel
theorem dX10_init_126 : decode cX10_init 126 = .ok (.iconst 0, 1) := by decide +kernel
theorem dX10_init_127 : decode cX10_init 127 = .ok (.iastore, 1) := by decide +kernel
theorem dX10_init_128 : decode cX10_init 128 = .ok (.putfield 27, 3) := by decide +kernel
theorem dX10_init_131 : decode cX10_init 131 = .ok (.aload_n 0, 1) := by decide +kernel
theorem dX10_init_132 : decode cX10_init 132 = .ok (.bipush 6, 2) := by decide +kernel
theorem dX10_init_134 : decode cX10_init 134 = .ok (.newarray .int, 2) := by decide +kernel
theorem dX10_init_136 : decode cX10_init 136 = .ok (.putfield 30, 3) := by decide +kernel
theorem dX10_init_139 : decode cX10_init 139 = .ok (.aload_n 0, 1) := by decide +kernel
theorem dX10_init_140 : decode cX10_init 140 = .ok (.iconst 2, 1) := by decide +kernel
theorem dX10_init_141 : decode cX10_init 141 = .ok (.newarray .boolean, 2) := by decide +kernel
theorem dX10_init_143 : decode cX10_init 143 = .ok (.putfield 33, 3) := by decide +kernel
theorem dX10_init_146 : decode cX10_init 146 = .ok (.aload_n 0, 1) := by decide +kernel
theorem dX10_init_147 : decode cX10_init 147 = .ok (.sipush 200, 3) := by decide +kernel
theorem dX10_init_150 : decode cX10_init 150 = .ok (.newarray .int, 2) := by decide +kernel
theorem dX10_init_152 : decode cX10_init 152 = .ok (.putfield 37, 3) := by decide +kernel
theorem dX10_init_155 : decode cX10_init 155 = .ok (.aload_n 0, 1) := by decide +kernel
theorem dX10_init_156 : decode cX10_init 156 = .ok (.iconst 3, 1) := by decide +kernel
theorem dX10_init_157 : decode cX10_init 157 = .ok (.newarray .int, 2) := by decide +kernel
theorem dX10_init_159 : decode cX10_init 159 = .ok (.dup, 1) := by decide +kernel
theorem dX10_init_160 : decode cX10_init 160 = .ok (.iconst 0, 1) := by decide +kernel
theorem dX10_init_161 : decode cX10_init 161 = .ok (.iconst (-1), 1) := by decide +kernel
theorem dX10_init_162 : decode cX10_init 162 = .ok (.iastore, 1) := by decide +kernel
theorem dX10_init_163 : decode cX10_init 163 = .ok (.dup, 1) := by decide +kernel
theorem dX10_init_164 : decode cX10_init 164 = .ok (.iconst 1, 1) := by decide +kernel
theorem dX10_init_165 : decode cX10_init 165 = .ok (.iconst (-1), 1) := by decide +kernel
theorem dX10_init_166 : decode cX10_init 166 = .ok (.iastore, 1) := by decide +kernel
theorem dX10_init_167 : decode cX10_init 167 = .ok (.dup, 1) := by decide +kernel
theorem dX10_init_168 : decode cX10_init 168 = .ok (.iconst 2, 1) := by decide +kernel
theorem dX10_init_169 : decode cX10_init 169 = .ok (.iconst (-1), 1) := by decide +kernel
theorem dX10_init_170 : decode cX10_init 170 = .ok (.iastore, 1) := by decide +kernel
theorem dX10_init_171 : decode cX10_init 171 = .ok (.putfield 40, 3) := by decide +kernel
theorem dX10_init_174 : decode cX10_init 174 = .ok (.aload_n 0, 1) := by decide +kernel
theorem dX10_init_175 : decode cX10_init 175 = .ok (.bipush 24, 2) := by decide +kernel
theorem dX10_init_177 : decode cX10_init 177 = .ok (.newarray .int, 2) := by decide +kernel
theorem dX10_init_179 : decode cX10_init 179 = .ok (.putfield 43, 3) := by decide +kernel
theorem dX10_init_182 : decode cX10_init 182 = .ok (.aload_n 0, 1) := by decide +kernel
theorem dX10_init_183 : decode cX10_init 183 = .ok (.bipush 24, 2) := by decide +kernel
theorem dX10_init_185 : decode cX10_init 185 = .ok (.newarray .int, 2) := by decide +kernel
theorem dX10_init_187 : decode cX10_init 187 = .ok (.putfield 46, 3) := by decide +kernel
theorem dX10_init_190 : decode cX10_init 190 = .ok (.aload_n 0, 1) := by decide +kernel
theorem dX10_init_191 : decode cX10_init 191 = .ok (.bipush 24, 2) := by decide +kernel
theorem dX10_init_193 : decode cX10_init 193 = .ok (.newarray .int, 2) := by decide +kernel
theorem dX10_init_195 : decode cX10_init 195 = .ok (.putfield 49, 3) := by decide +kernel
theorem dX10_init_198 : decode cX10_init 198 = .ok (.aload_n 0, 1) := by decide +kernel
theorem dX10_init_199 : decode cX10_init 199 = .ok (.iconst 4, 1) := by decide +kernel
theorem dX10_init_200 : decode cX10_init 200 = .ok (.newarray .int, 2) := by decide +kernel
theorem dX10_init_202 : decode cX10_init 202 = .ok (.putfield 52, 3) := by decide +kernel
theorem dX10_init_205 : decode cX10_init 205 = .ok (.aload_n 0, 1) := by decide +kernel
theorem dX10_init_206 : decode cX10_init 206 = .ok (.bipush 24, 2) := by decide +kernel
theorem dX10_init_208 : decode cX10_init 208 = .ok (.newarray .int, 2) := by decide +kernel
theorem dX10_init_210 : decode cX10_init 210 = .ok (.dup, 1) := by decide +kernel
theorem dX10_init_211 : decode cX10_init 211 = .ok (.iconst 0, 1) := by decide +kernel
theorem dX10_init_212 : decode cX10_init 212 = .ok (.bipush 110, 2) := by decide +kernel
theorem dX10_init_214 : decode cX10_init 214 = .ok (.iastore, 1) := by decide +kernel
theorem dX10_init_215 : decode cX10_init 215 = .ok (.dup, 1) := by decide +kernel
theorem dX10_init_216 : decode cX10_init 216 = .ok (.iconst 1, 1) := by decide +kernel
theorem dX10_init_217 : decode cX10_init 217 = .ok (.bipush 101, 2) := by decide +kernel
theorem dX10_init_219 : decode cX10_init 219 = .ok (.iastore, 1) := by decide +kernel
theorem dX10_init_220 : decode cX10_init 220 = .ok (.dup, 1) := by decide +kernel
theorem dX10_init_221 : decode cX10_init 221 = .ok (.iconst 2, 1) := by decide +kernel
theorem dX10_init_222 : decode cX10_init 222 = .ok (.bipush 116, 2) := by decide +kernel
theorem dX10_init_224 : decode cX10_init 224 = .ok (.iastore, 1) := by decide +kernel
theorem dX10_init_225 : decode cX10_init 225 = .ok (.dup, 1) := by decide +kernel
theorem dX10_init_226 : decode cX10_init 226 = .ok (.iconst 3, 1) := by decide +kernel
theorem dX10_init_227 : decode cX10_init 227 = .ok (.iconst 0, 1) := by decide +kernel
theorem dX10_init_228 : decode cX10_init 228 = .ok (.iastore, 1) := by decide +kernel
theorem dX10_init_229 : decode cX10_init 229 = .ok (.dup, 1) := by decide +kernel
theorem dX10_init_230 : decode cX10_init 230 = .ok (.iconst 4, 1) := by decide +kernel
theorem dX10_init_231 : decode cX10_init 231 = .ok (.iconst 0, 1) := by decide +kernel
theorem dX10_init_232 : decode cX10_init 232 = .ok (.iastore, 1) := by decide +kernel
theorem dX10_init_233 : decode cX10_init 233 = .ok (.dup, 1) := by decide +kernel
theorem dX10_init_234 : decode cX10_init 234 = .ok (.iconst 5, 1) := by decide +kernel
theorem dX10_init_235 : decode cX10_init 235 = .ok (.iconst 0, 1) := by decide +kernel
theorem dX10_init_236 : decode cX10_init 236 = .ok (.iastore, 1) := by decide +kernel
theorem dX10_init_237 : decode cX10_init 237 = .ok (.dup, 1) := by decide +kernel
theorem dX10_init_238 : decode cX10_init 238 = .ok (.bipush 6, 2) := by decide +kernel
theorem dX10_init_240 : decode cX10_init 240 = .ok (.bipush 115, 2) := by decide +kernel
theorem dX10_init_242 : decode cX10_init 242 = .ok (.iastore, 1) := by decide +kernel
theorem dX10_init_243 : decode cX10_init 243 = .ok (.dup, 1) := by decide +kernel
theorem dX10_init_244 : decode cX10_init 244 = .ok (.bipush 7, 2) := by decide +kernel
theorem dX10_init_246 : decode cX10_init 246 = .ok (.bipush 111, 2) := by decide +kernel
theorem dX10_init_248 : decode cX10_init 248 = .ok (.iastore, 1) := by decide +kernel
theorem dX10_init_249 : decode cX10_init 249 = .ok (.dup, 1) := by decide +kernel
theorem dX10_init_250 : decode cX10_init 250 = .ok (.bipush 8, 2) := by decide +kernel
theorem dX10_init_252 : decode cX10_init 252 = .ok (.bipush 117, 2) := by decide +kernel
theorem dX10_init_254 : decode cX10_init 254 = .ok (.iastore, 1) := by decide +kernel
theorem dX10_init_255 : decode cX10_init 255 = .ok (.dup, 1) := by decide +kernel
theorem dX10_init_256 : decode cX10_init 256 = .ok (.bipush 9, 2) := by decide +kernel
theorem dX10_init_258 : decode cX10_init 258 = .ok (.bipush 114, 2) := by decide +kernel
theorem dX10_init_260 : decode cX10_init 260 = .ok (.iastore, 1) := by decide +kernel
theorem dX10_init_261 : decode cX10_init 261 = .ok (.dup, 1) := by decide +kernel
theorem dX10_init_262 : decode cX10_init 262 = .ok (.bipush 10, 2) := by decide +kernel
theorem dX10_init_264 : decode cX10_init 264 = .ok (.bipush 99, 2) := by decide +kernel
theorem dX10_init_266 : decode cX10_init 266 = .ok (.iastore, 1) := by decide +kernel
theorem dX10_init_267 : decode cX10_init 267 = .ok (.dup, 1) := by decide +kernel
theorem dX10_init_268 : decode cX10_init 268 = .ok (.bipush 11, 2) := by decide +kernel
theorem dX10_init_270 : decode cX10_init 270 = .ok (.bipush 101, 2) := by decide +kernel
theorem dX10_init_272 : decode cX10_init 272 = .ok (.iastore, 1) := by decide +kernel
theorem dX10_init_273 : decode cX10_init 273 = .ok (.dup, 1) := by decide +kernel
theorem dX10_init_274 : decode cX10_init 274 = .ok (.bipush 12, 2) := by decide +kernel
theorem dX10_init_276 : decode cX10_init 276 = .ok (.bipush 98, 2) := by decide +kernel
theorem dX10_init_278 : decode cX10_init 278 = .ok (.iastore, 1) := by decide +kernel
theorem dX10_init_279 : decode cX10_init 279 = .ok (.dup, 1) := by decide +kernel
theorem dX10_init_280 : decode cX10_init 280 = .ok (.bipush 13, 2) := by decide +kernel
theorem dX10_init_282 : decode cX10_init 282 = .ok (.bipush 117, 2) := by decide +kernel
theorem dX10_init_284 : decode cX10_init 284 = .ok (.iastore, 1) := by decide +kernel
theorem dX10_init_285 : decode cX10_init 285 = .ok (.dup, 1) := by decide +kernel
theorem dX10_init_286 : decode cX10_init 286 = .ok (.bipush 14, 2) := by decide +kernel
theorem dX10_init_288 : decode cX10_init 288 = .ok (.bipush 115, 2) := by decide +kernel
theorem dX10_init_290 : decode cX10_init 290 = .ok (.iastore, 1) := by decide +kernel
theorem dX10_init_291 : decode cX10_init 291 = .ok (.dup, 1) := by decide +kernel
theorem dX10_init_292 : decode cX10_init 292 = .ok (.bipush 15, 2) := by decide +kernel
theorem dX10_init_294 : decode cX10_init 294 = .ok (.iconst 0, 1) := by decide +kernel
theorem dX10_init_295 : decode cX10_init 295 = .ok (.iastore, 1) := by decide +kernel
theorem dX10_init_296 : decode cX10_init 296 = .ok (.dup, 1) := by decide +kernel
theorem dX10_init_297 : decode cX10_init 297 = .ok (.bipush 16, 2) := by decide +kernel
theorem dX10_init_299 : decode cX10_init 299 = .ok (.iconst 0, 1) := by decide +kernel
theorem dX10_init_300 : decode cX10_init 300 = .ok (.iastore, 1) := by decide +kernel
theorem dX10_init_301 : decode cX10_init 301 = .ok (.dup, 1) := by decide +kernel
theorem dX10_init_302 : decode cX10_init 302 = .ok (.bipush 17, 2) := by decide +kernel
theorem dX10_init_304 : decode cX10_init 304 = .ok (.iconst 0, 1) := by decide +kernel
theorem dX10_init_305 : decode cX10_init 305 = .ok (.iastore, 1) := by decide +kernel
theorem dX10_init_306 : decode cX10_init 306 = .ok (.dup, 1) := by decide +kernel
theorem dX10_init_307 : decode cX10_init 307 = .ok (.bipush 18, 2) := by decide +kernel
theorem dX10_init_309 : decode cX10_init 309 = .ok (.bipush 114, 2) := by decide +kernel
theorem dX10_init_311 : decode cX10_init 311 = .ok (.iastore, 1) := by decide +kernel
theorem dX10_init_312 : decode cX10_init 312 = .ok (.dup, 1) := by decide +kernel
theorem dX10_init_313 : decode cX10_init 313 = .ok (.bipush 19, 2) := by decide +kernel
theorem dX10_init_315 : decode cX10_init 315 = .ok (.bipush 101, 2) := by decide +kernel
theorem dX10_init_317 : decode cX10_init 317 = .ok (.iastore, 1) := by decide +kernel
theorem dX10_init_318 : decode cX10_init 318 = .ok (.dup, 1) := by decide +kernel
theorem dX10_init_319 : decode cX10_init 319 = .ok (.bipush 20, 2) := by decide +kernel
theorem dX10_init_321 : decode cX10_init 321 = .ok (.bipush 108, 2) := by decide +kernel
theorem dX10_init_323 : decode cX10_init 323 = .ok (.iastore, 1) := by decide +kernel
theorem dX10_init_324 : decode cX10_init 324 = .ok (.dup, 1) := by decide +kernel
theorem dX10_init_325 : decode cX10_init 325 = .ok (.bipush 21, 2) := by decide +kernel
theorem dX10_init_327 : decode cX10_init 327 = .ok (.bipush 97, 2) := by decide +kernel
theorem dX10_init_329 : decode cX10_init 329 = .ok (.iastore, 1) := by decide +kernel
theorem dX10_init_330 : decode cX10_init 330 = .ok (.dup, 1) := by decide +kernel
theorem dX10_init_331 : decode cX10_init 331 = .ok (.bipush 22, 2) := by decide +kernel
theorem dX10_init_333 : decode cX10_init 333 = .ok (.bipush 121, 2) := by decide +kernel
theorem dX10_init_335 : decode cX10_init 335 = .ok (.iastore, 1) := by decide +kernel
theorem dX10_init_336 : decode cX10_init 336 = .ok (.dup, 1) := by decide +kernel
theorem dX10_init_337 : decode cX10_init 337 = .ok (.bipush 23, 2) := by decide +kernel
theorem dX10_init_339 : decode cX10_init 339 = .ok (.iconst 0, 1) := by decide +kernel
theorem dX10_init_340 : decode cX10_init 340 = .ok (.iastore, 1) := by decide +kernel
theorem dX10_init_341 : decode cX10_init 341 = .ok (.putfield 55, 3) := by decide +kernel
theorem dX10_init_344 : decode cX10_init 344 = .ok (.aload_n 0, 1) := by decide +kernel
theorem dX10_init_345 : decode cX10_init 345 = .ok (.iconst 3, 1) := by decide +kernel
theorem dX10_init_346 : decode cX10_init 346 = .ok (.newarray .long, 2) := by decide +kernel
theorem dX10_init_348 : decode cX10_init 348 = .ok (.putfield 58, 3) := by decide +kernel
theorem dX10_init_351 : decode cX10_init 351 = .ok (.aload_n 0, 1) := by decide +kernel
theorem dX10_init_352 : decode cX10_init 352 = .ok (.bipush 6, 2) := by decide +kernel
theorem dX10_init_354 : decode cX10_init 354 = .ok (.newarray .long, 2) := by decide +kernel
theorem dX10_init_356 : decode cX10_init 356 = .ok (.putfield 61, 3) := by decide +kernel
theorem dX10_init_359 : decode cX10_init 359 = .ok (.iconst 0, 1) := by decide +kernel
theorem dX10_init_360 : decode cX10_init 360 = .ok (.istore_n 1, 1) := by decide +kernel
theorem dX10_init_361 : decode cX10_init 361 = .ok (.iload_n 1, 1) := by decide +kernel
theorem dX10_init_362 : decode cX10_init 362 = .ok (.bipush 88, 2) := by decide +kernel
theorem dX10_init_364 : decode cX10_init 364 = .ok (.if_icmp .ge 16, 3) := by decide +kernel
theorem dX10_init_367 : decode cX10_init 367 = .ok (.aload_n 0, 1) := by decide +kernel
theorem dX10_init_368 : decode cX10_init 368 = .ok (.getfield 13, 3) := by decide +kernel
theorem dX10_init_371 : decode cX10_init 371 = .ok (.iload_n 1, 1) := by decide +kernel
theorem dX10_init_372 : decode cX10_init 372 = .ok (.lconst 1, 1) := by decide +kernel
theorem dX10_init_373 : decode cX10_init 373 = .ok (.lastore, 1) := by decide +kernel
theorem dX10_init_374 : decode cX10_init 374 = .ok (.iinc 1 1, 3) := by decide +kernel
theorem dX10_init_377 : decode cX10_init 377 = .ok (.goto (-16), 3) := by decide +kernel
theorem dX10_init_380 : decode cX10_init 380 = .ok (.return_, 1) := by decide +kernel
theorem dX10_in_0 : decode cX10_in 0 = .ok (.lload_n 0, 1) := by decide +kernel
theorem dX10_in_1 : decode cX10_in 1 = .ok (.lload_n 2, 1) := by decide +kernel
theorem dX10_in_2 : decode cX10_in 2 = .ok (.lcmp, 1) := by decide +kernel
theorem dX10_in_3 : decode cX10_in 3 = .ok (.ifCond .lt 14, 3) := by decide +kernel
theorem dX10_in_6 : decode cX10_in 6 = .ok (.lload_n 0, 1) := by decide +kernel
theorem dX10_in_7 : decode cX10_in 7 = .ok (.lload 4, 2) := by decide +kernel
theorem dX10_in_9 : decode cX10_in 9 = .ok (.lcmp, 1) := by decide +kernel
theorem dX10_in_10 : decode cX10_in 10 = .ok (.ifCond .gt 7, 3) := by decide +kernel
theorem dX10_in_13 : decode cX10_in 13 = .ok (.iconst 1, 1) := by decide +kernel
theorem dX10_in_14 : decode cX10_in 14 = .ok (.goto 4, 3) := by decide +kernel
theorem dX10_in_17 : decode cX10_in 17 = .ok (.iconst 0, 1) := by decide +kernel
theorem dX10_in_18 : decode cX10_in 18 = .ok (.ireturn, 1) := by decide +kernel
set_option maxRecDepth 20000 in
theorem ggX10_write_X10_in : GoodIn wsX10_write wsX10_in := goodIn_r _ [9] (by decide +kernel) (by decide +kernel)
set_option maxRecDepth 20000 in
theorem gX10_write_X10_in : GoodIn wsX10_write (va_wsS RX10 66 yX10_in wsX10_in) := goodIn_app (goodIn_of _ (by decide +kernel)) ggX10_write_X10_in
theorem dX10_write_0 : decode cX10_write 0 = .ok (.iload_n 1, 1) := by decide +kernel
theorem dX10_write_1 : decode cX10_write 1 = .ok (.i2l, 1) := by decide +kernel
theorem dX10_write_2 : decode cX10_write 2 = .ok (.lconst 0, 1) := by decide +kernel
theorem dX10_write_3 : decode cX10_write 3 = .ok (.ldc2_w 64, 3) := by decide +kernel
theorem dX10_write_6 : decode cX10_write 6 = .ok (.invokestatic 66, 3) := by decide +kernel
theorem dX10_write_9 : decode cX10_write 9 = .ok (.ifCond .ne 6, 3) := by decide +kernel
theorem dX10_write_12 : decode cX10_write 12 = .ok (.ldc 70, 2) := by decide +kernel
theorem dX10_write_14 : decode cX10_write 14 = .ok (.ireturn, 1) := by decide +kernel
theorem dX10_write_15 : decode cX10_write 15 = .ok (.aload_n 0, 1) := by decide +kernel
theorem dX10_write_16 : decode cX10_write 16 = .ok (.getfield 71, 3) := by decide +kernel
theorem dX10_write_19 : decode cX10_write 19 = .ok (.sipush 200, 3) := by decide +kernel
theorem dX10_write_22 : decode cX10_write 22 = .ok (.if_icmp .ne 6, 3) := by decide +kernel
theorem dX10_write_25 : decode cX10_write 25 = .ok (.ldc 74, 2) := by decide +kernel
theorem dX10_write_27 : decode cX10_write 27 = .ok (.ireturn, 1) := by decide +kernel
theorem dX10_write_28 : decode cX10_write 28 = .ok (.aload_n 0, 1) := by decide +kernel
theorem dX10_write_29 : decode cX10_write 29 = .ok (.getfield 37, 3) := by decide +kernel
theorem dX10_write_32 : decode cX10_write 32 = .ok (.aload_n 0, 1) := by decide +kernel
theorem dX10_write_33 : decode cX10_write 33 = .ok (.getfield 71, 3) := by decide +kernel
theorem dX10_write_36 : decode cX10_write 36 = .ok (.iload_n 1, 1) := by decide +kernel
theorem dX10_write_37 : decode cX10_write 37 = .ok (.iastore, 1) := by decide +kernel
theorem dX10_write_38 : decode cX10_write 38 = .ok (.aload_n 0, 1) := by decide +kernel
theorem dX10_write_39 : decode cX10_write 39 = .ok (.dup, 1) := by decide +kernel
theorem dX10_write_40 : decode cX10_write 40 = .ok (.getfield 71, 3) := by decide +kernel
theorem dX10_write_43 : decode cX10_write 43 = .ok (.iconst 1, 1) := by decide +kernel
theorem dX10_write_44 : decode cX10_write 44 = .ok (.iadd, 1) := by decide +kernel
theorem dX10_write_45 : decode cX10_write 45 = .ok (.putfield 71, 3) := by decide +kernel
theorem dX10_write_48 : decode cX10_write 48 = .ok (.aload_n 0, 1) := by decide +kernel
theorem dX10_write_49 : decode cX10_write 49 = .ok (.getfield 71, 3) := by decide +kernel
theorem dX10_write_52 : decode cX10_write 52 = .ok (.ireturn, 1) := by decide +kernel
theorem dX10_erase_0 : decode cX10_erase 0 = .ok (.aload_n 0, 1) := by decide +kernel
theorem dX10_erase_1 : decode cX10_erase 1 = .ok (.getfield 71, 3) := by decide +kernel
theorem dX10_erase_4 : decode cX10_erase 4 = .ok (.istore_n 1, 1) := by decide +kernel
theorem dX10_erase_5 : decode cX10_erase 5 = .ok (.aload_n 0, 1) := by decide +kernel
theorem dX10_erase_6 : decode cX10_erase 6 = .ok (.iconst 0, 1) := by decide +kernel
theorem dX10_erase_7 : decode cX10_erase 7 = .ok (.putfield 71, 3) := by decide +kernel
theorem dX10_erase_10 : decode cX10_erase 10 = .ok (.iload_n 1, 1) := by decide +kernel
theorem dX10_erase_11 : decode cX10_erase 11 = .ok (.ireturn, 1) := by decide +kernel
set_option maxRecDepth 20000 in
theorem ggX10_isSmall_X10_in : GoodIn wsX10_isSmall wsX10_in := goodIn_r _ [6] (by decide +kernel) (by decide +kernel)
set_option maxRecDepth 20000 in
theorem gX10_isSmall_X10_in : GoodIn wsX10_isSmall (va_wsS RX10 66 yX10_in wsX10_in) := goodIn_app (goodIn_of _ (by decide +kernel)) ggX10_isSmall_X10_in
theorem dX10_isSmall_0 : decode cX10_isSmall 0 = .ok (.iload_n 0, 1) := by decide +kernel
theorem dX10_isSmall_1 : decode cX10_isSmall 1 = .ok (.i2l, 1) := by decide +kernel
theorem dX10_isSmall_2 : decode cX10_isSmall 2 = .ok (.ldc2_w 75, 3) := by decide +kernel
theorem dX10_isSmall_5 : decode cX10_isSmall 5 = .ok (.ldc2_w 77, 3) := by decide +kernel
theorem dX10_isSmall_8 : decode cX10_isSmall 8 = .ok (.invokestatic 66, 3) := by decide +kernel
theorem dX10_isSmall_11 : decode cX10_isSmall 11 = .ok (.ireturn, 1) := by decide +kernel
set_option maxRecDepth 20000 in
theorem ggX10_isDigit_X10_in : GoodIn wsX10_isDigit wsX10_in := goodIn_r _ [6] (by decide +kernel) (by decide +kernel)
set_option maxRecDepth 20000 in
theorem gX10_isDigit_X10_in : GoodIn wsX10_isDigit (va_wsS RX10 66 yX10_in wsX10_in) := goodIn_app (goodIn_of _ (by decide +kernel)) ggX10_isDigit_X10_in
theorem dX10_isDigit_0 : decode cX10_isDigit 0 = .ok (.iload_n 0, 1) := by decide +kernel
theorem dX10_isDigit_1 : decode cX10_isDigit 1 = .ok (.i2l, 1) := by decide +kernel
theorem dX10_isDigit_2 : decode cX10_isDigit 2 = .ok (.ldc2_w 79, 3) := by decide +kernel
theorem dX10_isDigit_5 : decode cX10_isDigit 5 = .ok (.ldc2_w 81, 3) := by decide +kernel
theorem dX10_isDigit_8 : decode cX10_isDigit 8 = .ok (.invokestatic 66, 3) := by decide +kernel
theorem dX10_isDigit_11 : decode cX10_isDigit 11 = .ok (.ireturn, 1) := by decide +kernel
set_option maxRecDepth 20000 in
theorem ggX10_nextToken_X10_isSmall : GoodIn wsX10_nextToken wsX10_isSmall := goodIn_r _ [8, 9, 10, 11, 12, 7, 13] (by decide +kernel) (by decide +kernel)
set_option maxRecDepth 20000 in
theorem gX10_nextToken_X10_isSmall : GoodIn wsX10_nextToken (va_wsS RX10 89 yX10_isSmall wsX10_isSmall) := goodIn_app (goodIn_of _ (by decide +kernel)) ggX10_nextToken_X10_isSmall
set_option maxRecDepth 20000 in
theorem ggX10_nextToken_X10_isDigit : GoodIn wsX10_nextToken wsX10_isDigit := goodIn_r _ [16, 17, 18, 11, 12, 7, 13] (by decide +kernel) (by decide +kernel)
set_option maxRecDepth 20000 in
theorem gX10_nextToken_X10_isDigit : GoodIn wsX10_nextToken (va_wsS RX10 93 yX10_isDigit wsX10_isDigit) := goodIn_app (goodIn_of _ (by decide +kernel)) ggX10_nextToken_X10_isDigit
theorem dX10_nextToken_0 : decode cX10_nextToken 0 = .ok (.aload_n 0, 1) := by decide +kernel
theorem dX10_nextToken_1 : decode cX10_nextToken 1 = .ok (.aload_n 0, 1) := by decide +kernel
theorem dX10_nextToken_2 : decode cX10_nextToken 2 = .ok (.getfield 83, 3) := by decide +kernel
theorem dX10_nextToken_5 : decode cX10_nextToken 5 = .ok (.putfield 86, 3) := by decide +kernel
theorem dX10_nextToken_8 : decode cX10_nextToken 8 = .ok (.aload_n 0, 1) := by decide +kernel
theorem dX10_nextToken_9 : decode cX10_nextToken 9 = .ok (.getfield 86, 3) := by decide +kernel
theorem dX10_nextToken_12 : decode cX10_nextToken 12 = .ok (.aload_n 0, 1) := by decide +kernel
theorem dX10_nextToken_13 : decode cX10_nextToken 13 = .ok (.getfield 71, 3) := by decide +kernel
theorem dX10_nextToken_16 : decode cX10_nextToken 16 = .ok (.if_icmp .ge 30, 3) := by decide +kernel
theorem dX10_nextToken_19 : decode cX10_nextToken 19 = .ok (.aload_n 0, 1) := by decide +kernel
theorem dX10_nextToken_20 : decode cX10_nextToken 20 = .ok (.getfield 37, 3) := by decide +kernel
theorem dX10_nextToken_23 : decode cX10_nextToken 23 = .ok (.aload_n 0, 1) := by decide +kernel
theorem dX10_nextToken_24 : decode cX10_nextToken 24 = .ok (.getfield 86, 3) := by decide +kernel
theorem dX10_nextToken_27 : decode cX10_nextToken 27 = .ok (.iaload, 1) := by decide +kernel
theorem dX10_nextToken_28 : decode cX10_nextToken 28 = .ok (.bipush 32, 2) := by decide +kernel
theorem dX10_nextToken_30 : decode cX10_nextToken 30 = .ok (.if_icmp .ne 16, 3) := by decide +kernel
theorem dX10_nextToken_33 : decode cX10_nextToken 33 = .ok (.aload_n 0, 1) := by decide +kernel
theorem dX10_nextToken_34 : decode cX10_nextToken 34 = .ok (.dup, 1) := by decide +kernel
theorem dX10_nextToken_35 : decode cX10_nextToken 35 = .ok (.getfield 86, 3) := by decide +kernel
theorem dX10_nextToken_38 : decode cX10_nextToken 38 = .ok (.iconst 1, 1) := by decide +kernel
theorem dX10_nextToken_39 : decode cX10_nextToken 39 = .ok (.iadd, 1) := by decide +kernel
theorem dX10_nextToken_40 : decode cX10_nextToken 40 = .ok (.putfield 86, 3) := by decide +kernel
theorem dX10_nextToken_43 : decode cX10_nextToken 43 = .ok (.goto (-35), 3) := by decide +kernel
theorem dX10_nextToken_46 : decode cX10_nextToken 46 = .ok (.aload_n 0, 1) := by decide +kernel
theorem dX10_nextToken_47 : decode cX10_nextToken 47 = .ok (.aload_n 0, 1) := by decide +kernel
theorem dX10_nextToken_48 : decode cX10_nextToken 48 = .ok (.getfield 86, 3) := by decide +kernel
theorem dX10_nextToken_51 : decode cX10_nextToken 51 = .ok (.aload_n 0, 1) := by decide +kernel
theorem dX10_nextToken_52 : decode cX10_nextToken 52 = .ok (.getfield 71, 3) := by decide +kernel
theorem dX10_nextToken_55 : decode cX10_nextToken 55 = .ok (.if_icmp .ge 12, 3) := by decide +kernel
theorem dX10_nextToken_58 : decode cX10_nextToken 58 = .ok (.aload_n 0, 1) := by decide +kernel
theorem dX10_nextToken_59 : decode cX10_nextToken 59 = .ok (.getfield 86, 3) := by decide +kernel
theorem dX10_nextToken_62 : decode cX10_nextToken 62 = .ok (.iconst 1, 1) := by decide +kernel
theorem dX10_nextToken_63 : decode cX10_nextToken 63 = .ok (.iadd, 1) := by decide +kernel
theorem dX10_nextToken_64 : decode cX10_nextToken 64 = .ok (.goto 7, 3) := by decide +kernel
theorem dX10_nextToken_67 : decode cX10_nextToken 67 = .ok (.aload_n 0, 1) := by decide +kernel
theorem dX10_nextToken_68 : decode cX10_nextToken 68 = .ok (.getfield 86, 3) := by decide +kernel
theorem dX10_nextToken_71 : decode cX10_nextToken 71 = .ok (.putfield 83, 3) := by decide +kernel
theorem dX10_nextToken_74 : decode cX10_nextToken 74 = .ok (.aload_n 0, 1) := by decide +kernel
theorem dX10_nextToken_75 : decode cX10_nextToken 75 = .ok (.getfield 86, 3) := by decide +kernel
theorem dX10_nextToken_78 : decode cX10_nextToken 78 = .ok (.aload_n 0, 1) := by decide +kernel
theorem dX10_nextToken_79 : decode cX10_nextToken 79 = .ok (.getfield 71, 3) := by decide +kernel
theorem dX10_nextToken_82 : decode cX10_nextToken 82 = .ok (.if_icmp .ge 57, 3) := by decide +kernel
theorem dX10_nextToken_85 : decode cX10_nextToken 85 = .ok (.aload_n 0, 1) := by decide +kernel
theorem dX10_nextToken_86 : decode cX10_nextToken 86 = .ok (.getfield 37, 3) := by decide +kernel
theorem dX10_nextToken_89 : decode cX10_nextToken 89 = .ok (.aload_n 0, 1) := by decide +kernel
theorem dX10_nextToken_90 : decode cX10_nextToken 90 = .ok (.getfield 86, 3) := by decide +kernel
theorem dX10_nextToken_93 : decode cX10_nextToken 93 = .ok (.iaload, 1) := by decide +kernel
theorem dX10_nextToken_94 : decode cX10_nextToken 94 = .ok (.invokestatic 89, 3) := by decide +kernel
theorem dX10_nextToken_97 : decode cX10_nextToken 97 = .ok (.ifCond .eq 42, 3) := by decide +kernel
theorem dX10_nextToken_100 : decode cX10_nextToken 100 = .ok (.aload_n 0, 1) := by decide +kernel
theorem dX10_nextToken_101 : decode cX10_nextToken 101 = .ok (.getfield 83, 3) := by decide +kernel
theorem dX10_nextToken_104 : decode cX10_nextToken 104 = .ok (.aload_n 0, 1) := by decide +kernel
theorem dX10_nextToken_105 : decode cX10_nextToken 105 = .ok (.getfield 71, 3) := by decide +kernel
theorem dX10_nextToken_108 : decode cX10_nextToken 108 = .ok (.if_icmp .ge 96, 3) := by decide +kernel
theorem dX10_nextToken_111 : decode cX10_nextToken 111 = .ok (.aload_n 0, 1) := by decide +kernel
theorem dX10_nextToken_112 : decode cX10_nextToken 112 = .ok (.getfield 37, 3) := by decide +kernel
theorem dX10_nextToken_115 : decode cX10_nextToken 115 = .ok (.aload_n 0, 1) := by decide +kernel
theorem dX10_nextToken_116 : decode cX10_nextToken 116 = .ok (.getfield 83, 3) := by decide +kernel
theorem dX10_nextToken_119 : decode cX10_nextToken 119 = .ok (.iaload, 1) := by decide +kernel
theorem dX10_nextToken_120 : decode cX10_nextToken 120 = .ok (.invokestatic 89, 3) := by decide +kernel
theorem dX10_nextToken_123 : decode cX10_nextToken 123 = .ok (.ifCond .eq 81, 3) := by decide +kernel
theorem dX10_nextToken_126 : decode cX10_nextToken 126 = .ok (.aload_n 0, 1) := by decide +kernel
theorem dX10_nextToken_127 : decode cX10_nextToken 127 = .ok (.dup, 1) := by decide +kernel
theorem dX10_nextToken_128 : decode cX10_nextToken 128 = .ok (.getfield 83, 3) := by decide +kernel
theorem dX10_nextToken_131 : decode cX10_nextToken 131 = .ok (.iconst 1, 1) := by decide +kernel
theorem dX10_nextToken_132 : decode cX10_nextToken 132 = .ok (.iadd, 1) := by decide +kernel
theorem dX10_nextToken_133 : decode cX10_nextToken 133 = .ok (.putfield 83, 3) := by decide +kernel
theorem dX10_nextToken_136 : decode cX10_nextToken 136 = .ok (.goto (-36), 3) := by decide +kernel
theorem dX10_nextToken_139 : decode cX10_nextToken 139 = .ok (.aload_n 0, 1) := by decide +kernel
theorem dX10_nextToken_140 : decode cX10_nextToken 140 = .ok (.getfield 86, 3) := by decide +kernel
theorem dX10_nextToken_143 : decode cX10_nextToken 143 = .ok (.aload_n 0, 1) := by decide +kernel
theorem dX10_nextToken_144 : decode cX10_nextToken 144 = .ok (.getfield 71, 3) := by decide +kernel
theorem dX10_nextToken_147 : decode cX10_nextToken 147 = .ok (.if_icmp .ge 57, 3) := by decide +kernel
theorem dX10_nextToken_150 : decode cX10_nextToken 150 = .ok (.aload_n 0, 1) := by decide +kernel
theorem dX10_nextToken_151 : decode cX10_nextToken 151 = .ok (.getfield 37, 3) := by decide +kernel
theorem dX10_nextToken_154 : decode cX10_nextToken 154 = .ok (.aload_n 0, 1) := by decide +kernel
theorem dX10_nextToken_155 : decode cX10_nextToken 155 = .ok (.getfield 86, 3) := by decide +kernel
theorem dX10_nextToken_158 : decode cX10_nextToken 158 = .ok (.iaload, 1) := by decide +kernel
theorem dX10_nextToken_159 : decode cX10_nextToken 159 = .ok (.invokestatic 93, 3) := by decide +kernel
theorem dX10_nextToken_162 : decode cX10_nextToken 162 = .ok (.ifCond .eq 42, 3) := by decide +kernel
theorem dX10_nextToken_165 : decode cX10_nextToken 165 = .ok (.aload_n 0, 1) := by decide +kernel
theorem dX10_nextToken_166 : decode cX10_nextToken 166 = .ok (.getfield 83, 3) := by decide +kernel
theorem dX10_nextToken_169 : decode cX10_nextToken 169 = .ok (.aload_n 0, 1) := by decide +kernel
theorem dX10_nextToken_170 : decode cX10_nextToken 170 = .ok (.getfield 71, 3) := by decide +kernel
theorem dX10_nextToken_173 : decode cX10_nextToken 173 = .ok (.if_icmp .ge 31, 3) := by decide +kernel
theorem dX10_nextToken_176 : decode cX10_nextToken 176 = .ok (.aload_n 0, 1) := by decide +kernel
theorem dX10_nextToken_177 : decode cX10_nextToken 177 = .ok (.getfield 37, 3) := by decide +kernel
theorem dX10_nextToken_180 : decode cX10_nextToken 180 = .ok (.aload_n 0, 1) := by decide +kernel
theorem dX10_nextToken_181 : decode cX10_nextToken 181 = .ok (.getfield 83, 3) := by decide +kernel
theorem dX10_nextToken_184 : decode cX10_nextToken 184 = .ok (.iaload, 1) := by decide +kernel
theorem dX10_nextToken_185 : decode cX10_nextToken 185 = .ok (.invokestatic 93, 3) := by decide +kernel
theorem dX10_nextToken_188 : decode cX10_nextToken 188 = .ok (.ifCond .eq 16, 3) := by decide +kernel
theorem dX10_nextToken_191 : decode cX10_nextToken 191 = .ok (.aload_n 0, 1) := by decide +kernel
theorem dX10_nextToken_192 : decode cX10_nextToken 192 = .ok (.dup, 1) := by decide +kernel
theorem dX10_nextToken_193 : decode cX10_nextToken 193 = .ok (.getfield 83, 3) := by decide +kernel
theorem dX10_nextToken_196 : decode cX10_nextToken 196 = .ok (.iconst 1, 1) := by decide +kernel
theorem dX10_nextToken_197 : decode cX10_nextToken 197 = .ok (.iadd, 1) := by decide +kernel
theorem dX10_nextToken_198 : decode cX10_nextToken 198 = .ok (.putfield 83, 3) := by decide +kernel
theorem dX10_nextToken_201 : decode cX10_nextToken 201 = .ok (.goto (-36), 3) := by decide +kernel
theorem dX10_nextToken_204 : decode cX10_nextToken 204 = .ok (.return_, 1) := by decide +kernel
theorem dX10_wordHere_0 : decode cX10_wordHere 0 = .ok (.iconst 0, 1) := by decide +kernel
theorem dX10_wordHere_1 : decode cX10_wordHere 1 = .ok (.istore_n 1, 1) := by decide +kernel
theorem dX10_wordHere_2 : decode cX10_wordHere 2 = .ok (.iload_n 1, 1) := by decide +kernel
theorem dX10_wordHere_3 : decode cX10_wordHere 3 = .ok (.iconst 3, 1) := by decide +kernel
theorem dX10_wordHere_4 : decode cX10_wordHere 4 = .ok (.if_icmp .gt 112, 3) := by decide +kernel
theorem dX10_wordHere_7 : decode cX10_wordHere 7 = .ok (.aload_n 0, 1) := by decide +kernel
theorem dX10_wordHere_8 : decode cX10_wordHere 8 = .ok (.getfield 83, 3) := by decide +kernel
theorem dX10_wordHere_11 : decode cX10_wordHere 11 = .ok (.aload_n 0, 1) := by decide +kernel
theorem dX10_wordHere_12 : decode cX10_wordHere 12 = .ok (.getfield 86, 3) := by decide +kernel
theorem dX10_wordHere_15 : decode cX10_wordHere 15 = .ok (.if_icmp .le 21, 3) := by decide +kernel
theorem dX10_wordHere_18 : decode cX10_wordHere 18 = .ok (.aload_n 0, 1) := by decide +kernel
theorem dX10_wordHere_19 : decode cX10_wordHere 19 = .ok (.getfield 83, 3) := by decide +kernel
theorem dX10_wordHere_22 : decode cX10_wordHere 22 = .ok (.aload_n 0, 1) := by decide +kernel
theorem dX10_wordHere_23 : decode cX10_wordHere 23 = .ok (.getfield 86, 3) := by decide +kernel
theorem dX10_wordHere_26 : decode cX10_wordHere 26 = .ok (.isub, 1) := by decide +kernel
theorem dX10_wordHere_27 : decode cX10_wordHere 27 = .ok (.bipush 7, 2) := by decide +kernel
theorem dX10_wordHere_29 : decode cX10_wordHere 29 = .ok (.if_icmp .ge 7, 3) := by decide +kernel
theorem dX10_wordHere_32 : decode cX10_wordHere 32 = .ok (.iconst 1, 1) := by decide +kernel
theorem dX10_wordHere_33 : decode cX10_wordHere 33 = .ok (.goto 4, 3) := by decide +kernel
theorem dX10_wordHere_36 : decode cX10_wordHere 36 = .ok (.iconst 0, 1) := by decide +kernel
theorem dX10_wordHere_37 : decode cX10_wordHere 37 = .ok (.istore_n 2, 1) := by decide +kernel
theorem dX10_wordHere_38 : decode cX10_wordHere 38 = .ok (.iconst 0, 1) := by decide +kernel
theorem dX10_wordHere_39 : decode cX10_wordHere 39 = .ok (.istore_n 3, 1) := by decide +kernel
theorem dX10_wordHere_40 : decode cX10_wordHere 40 = .ok (.iload_n 3, 1) := by decide +kernel
theorem dX10_wordHere_41 : decode cX10_wordHere 41 = .ok (.bipush 6, 2) := by decide +kernel
theorem dX10_wordHere_43 : decode cX10_wordHere 43 = .ok (.if_icmp .ge 61, 3) := by decide +kernel
theorem dX10_wordHere_46 : decode cX10_wordHere 46 = .ok (.iload_n 2, 1) := by decide +kernel
theorem dX10_wordHere_47 : decode cX10_wordHere 47 = .ok (.ifCond .eq 57, 3) := by decide +kernel
theorem dX10_wordHere_50 : decode cX10_wordHere 50 = .ok (.aload_n 0, 1) := by decide +kernel
theorem dX10_wordHere_51 : decode cX10_wordHere 51 = .ok (.getfield 55, 3) := by decide +kernel
theorem dX10_wordHere_54 : decode cX10_wordHere 54 = .ok (.bipush 6, 2) := by decide +kernel
theorem dX10_wordHere_56 : decode cX10_wordHere 56 = .ok (.iload_n 1, 1) := by decide +kernel
theorem dX10_wordHere_57 : decode cX10_wordHere 57 = .ok (.imul, 1) := by decide +kernel
theorem dX10_wordHere_58 : decode cX10_wordHere 58 = .ok (.iload_n 3, 1) := by decide +kernel
theorem dX10_wordHere_59 : decode cX10_wordHere 59 = .ok (.iadd, 1) := by decide +kernel
theorem dX10_wordHere_60 : decode cX10_wordHere 60 = .ok (.iaload, 1) := by decide +kernel
theorem dX10_wordHere_61 : decode cX10_wordHere 61 = .ok (.aload_n 0, 1) := by decide +kernel
theorem dX10_wordHere_62 : decode cX10_wordHere 62 = .ok (.getfield 86, 3) := by decide +kernel
theorem dX10_wordHere_65 : decode cX10_wordHere 65 = .ok (.iload_n 3, 1) := by decide +kernel
theorem dX10_wordHere_66 : decode cX10_wordHere 66 = .ok (.iadd, 1) := by decide +kernel
theorem dX10_wordHere_67 : decode cX10_wordHere 67 = .ok (.aload_n 0, 1) := by decide +kernel
theorem dX10_wordHere_68 : decode cX10_wordHere 68 = .ok (.getfield 83, 3) := by decide +kernel
theorem dX10_wordHere_71 : decode cX10_wordHere 71 = .ok (.if_icmp .ge 17, 3) := by decide +kernel
theorem dX10_wordHere_74 : decode cX10_wordHere 74 = .ok (.aload_n 0, 1) := by decide +kernel
theorem dX10_wordHere_75 : decode cX10_wordHere 75 = .ok (.getfield 37, 3) := by decide +kernel
theorem dX10_wordHere_78 : decode cX10_wordHere 78 = .ok (.aload_n 0, 1) := by decide +kernel
theorem dX10_wordHere_79 : decode cX10_wordHere 79 = .ok (.getfield 86, 3) := by decide +kernel
theorem dX10_wordHere_82 : decode cX10_wordHere 82 = .ok (.iload_n 3, 1) := by decide +kernel
theorem dX10_wordHere_83 : decode cX10_wordHere 83 = .ok (.iadd, 1) := by decide +kernel
theorem dX10_wordHere_84 : decode cX10_wordHere 84 = .ok (.iaload, 1) := by decide +kernel
theorem dX10_wordHere_85 : decode cX10_wordHere 85 = .ok (.goto 4, 3) := by decide +kernel
theorem dX10_wordHere_88 : decode cX10_wordHere 88 = .ok (.iconst 0, 1) := by decide +kernel
theorem dX10_wordHere_89 : decode cX10_wordHere 89 = .ok (.if_icmp .ne 7, 3) := by decide +kernel
theorem dX10_wordHere_92 : decode cX10_wordHere 92 = .ok (.iconst 1, 1) := by decide +kernel
theorem dX10_wordHere_93 : decode cX10_wordHere 93 = .ok (.goto 4, 3) := by decide +kernel
theorem dX10_wordHere_96 : decode cX10_wordHere 96 = .ok (.iconst 0, 1) := by decide +kernel
theorem dX10_wordHere_97 : decode cX10_wordHere 97 = .ok (.istore_n 2, 1) := by decide +kernel
theorem dX10_wordHere_98 : decode cX10_wordHere 98 = .ok (.iinc 3 1, 3) := by decide +kernel
theorem dX10_wordHere_101 : decode cX10_wordHere 101 = .ok (.goto (-61), 3) := by decide +kernel
theorem dX10_wordHere_104 : decode cX10_wordHere 104 = .ok (.iload_n 2, 1) := by decide +kernel
theorem dX10_wordHere_105 : decode cX10_wordHere 105 = .ok (.ifCond .eq 5, 3) := by decide +kernel
theorem dX10_wordHere_108 : decode cX10_wordHere 108 = .ok (.iload_n 1, 1) := by decide +kernel
theorem dX10_wordHere_109 : decode cX10_wordHere 109 = .ok (.ireturn, 1) := by decide +kernel
theorem dX10_wordHere_110 : decode cX10_wordHere 110 = .ok (.iinc 1 1, 3) := by decide +kernel
theorem dX10_wordHere_113 : decode cX10_wordHere 113 = .ok (.goto (-111), 3) := by decide +kernel
theorem dX10_wordHere_116 : decode cX10_wordHere 116 = .ok (.iconst (-1), 1) := by decide +kernel
theorem dX10_wordHere_117 : decode cX10_wordHere 117 = .ok (.ireturn, 1) := by decide +kernel
set_option maxRecDepth 20000 in
theorem ggX10_number_X10_isDigit : GoodIn wsX10_number wsX10_isDigit := goodIn_r _ [9, 10, 11, 12, 13, 8, 14] (by decide +kernel) (by decide +kernel)
set_option maxRecDepth 20000 in
theorem gX10_number_X10_isDigit : GoodIn wsX10_number (va_wsS RX10 93 yX10_isDigit wsX10_isDigit) := goodIn_app (goodIn_of _ (by decide +kernel)) ggX10_number_X10_isDigit
set_option maxRecDepth 20000 in
theorem ggX10_number_X10_in : GoodIn wsX10_number wsX10_in := goodIn_r _ [14] (by decide +kernel) (by decide +kernel)
set_option maxRecDepth 20000 in
theorem gX10_number_X10_in : GoodIn wsX10_number (va_wsS RX10 66 yX10_in wsX10_in) := goodIn_app (goodIn_of _ (by decide +kernel)) ggX10_number_X10_in
set_option maxRecDepth 20000 in
theorem ggX10_number_X10_nextToken : GoodIn wsX10_number wsX10_nextToken := goodIn_r _ [18, 4, 1, 2, 3, 19, 20, 8, 21, 22, 23, 12, 13, 14, 6, 7, 9, 10, 11, 24, 25, 26, 27, 28, 29, 30, 31, 32, 33, 34, 35, 36, 37, 38, 39, 40, 41, 42, 43, 44, 45, 46, 47, 48, 49] (by decide +kernel) (by decide +kernel)
set_option maxRecDepth 20000 in
theorem gX10_number_X10_nextToken : GoodIn wsX10_number (wsV RX10 96 RX10 yX10_nextToken wsX10_nextToken) := goodIn_app (goodIn_of _ (by decide +kernel)) ggX10_number_X10_nextToken
theorem dX10_number_0 : decode cX10_number 0 = .ok (.aload_n 0, 1) := by decide +kernel
theorem dX10_number_1 : decode cX10_number 1 = .ok (.getfield 86, 3) := by decide +kernel
theorem dX10_number_4 : decode cX10_number 4 = .ok (.aload_n 0, 1) := by decide +kernel
theorem dX10_number_5 : decode cX10_number 5 = .ok (.getfield 71, 3) := by decide +kernel
theorem dX10_number_8 : decode cX10_number 8 = .ok (.if_icmp .eq 31, 3) := by decide +kernel
theorem dX10_number_11 : decode cX10_number 11 = .ok (.aload_n 0, 1) := by decide +kernel
theorem dX10_number_12 : decode cX10_number 12 = .ok (.getfield 37, 3) := by decide +kernel
theorem dX10_number_15 : decode cX10_number 15 = .ok (.aload_n 0, 1) := by decide +kernel
theorem dX10_number_16 : decode cX10_number 16 = .ok (.getfield 86, 3) := by decide +kernel
theorem dX10_number_19 : decode cX10_number 19 = .ok (.iaload, 1) := by decide +kernel
theorem dX10_number_20 : decode cX10_number 20 = .ok (.invokestatic 93, 3) := by decide +kernel
theorem dX10_number_23 : decode cX10_number 23 = .ok (.ifCond .eq 16, 3) := by decide +kernel
theorem dX10_number_26 : decode cX10_number 26 = .ok (.aload_n 0, 1) := by decide +kernel
theorem dX10_number_27 : decode cX10_number 27 = .ok (.getfield 83, 3) := by decide +kernel
theorem dX10_number_30 : decode cX10_number 30 = .ok (.aload_n 0, 1) := by decide +kernel
theorem dX10_number_31 : decode cX10_number 31 = .ok (.getfield 86, 3) := by decide +kernel
theorem dX10_number_34 : decode cX10_number 34 = .ok (.isub, 1) := by decide +kernel
theorem dX10_number_35 : decode cX10_number 35 = .ok (.iconst 3, 1) := by decide +kernel
theorem dX10_number_36 : decode cX10_number 36 = .ok (.if_icmp .le 5, 3) := by decide +kernel
theorem dX10_number_39 : decode cX10_number 39 = .ok (.iconst 0, 1) := by decide +kernel
theorem dX10_number_40 : decode cX10_number 40 = .ok (.ireturn, 1) := by decide +kernel
theorem dX10_number_41 : decode cX10_number 41 = .ok (.iconst 0, 1) := by decide +kernel
theorem dX10_number_42 : decode cX10_number 42 = .ok (.istore 4, 2) := by decide +kernel
theorem dX10_number_44 : decode cX10_number 44 = .ok (.aload_n 0, 1) := by decide +kernel
theorem dX10_number_45 : decode cX10_number 45 = .ok (.getfield 86, 3) := by decide +kernel
theorem dX10_number_48 : decode cX10_number 48 = .ok (.istore 5, 2) := by decide +kernel
theorem dX10_number_50 : decode cX10_number 50 = .ok (.iload 5, 2) := by decide +kernel
theorem dX10_number_52 : decode cX10_number 52 = .ok (.aload_n 0, 1) := by decide +kernel
theorem dX10_number_53 : decode cX10_number 53 = .ok (.getfield 83, 3) := by decide +kernel
theorem dX10_number_56 : decode cX10_number 56 = .ok (.if_icmp .ge 27, 3) := by decide +kernel
theorem dX10_number_59 : decode cX10_number 59 = .ok (.bipush 10, 2) := by decide +kernel
theorem dX10_number_61 : decode cX10_number 61 = .ok (.iload 4, 2) := by decide +kernel
theorem dX10_number_63 : decode cX10_number 63 = .ok (.imul, 1) := by decide +kernel
theorem dX10_number_64 : decode cX10_number 64 = .ok (.aload_n 0, 1) := by decide +kernel
theorem dX10_number_65 : decode cX10_number 65 = .ok (.getfield 37, 3) := by decide +kernel
theorem dX10_number_68 : decode cX10_number 68 = .ok (.iload 5, 2) := by decide +kernel
theorem dX10_number_70 : decode cX10_number 70 = .ok (.iaload, 1) := by decide +kernel
theorem dX10_number_71 : decode cX10_number 71 = .ok (.iadd, 1) := by decide +kernel
theorem dX10_number_72 : decode cX10_number 72 = .ok (.bipush 48, 2) := by decide +kernel
theorem dX10_number_74 : decode cX10_number 74 = .ok (.isub, 1) := by decide +kernel
theorem dX10_number_75 : decode cX10_number 75 = .ok (.istore 4, 2) := by decide +kernel
theorem dX10_number_77 : decode cX10_number 77 = .ok (.iinc 5 1, 3) := by decide +kernel
theorem dX10_number_80 : decode cX10_number 80 = .ok (.goto (-30), 3) := by decide +kernel
theorem dX10_number_83 : decode cX10_number 83 = .ok (.iload 4, 2) := by decide +kernel
theorem dX10_number_85 : decode cX10_number 85 = .ok (.i2l, 1) := by decide +kernel
theorem dX10_number_86 : decode cX10_number 86 = .ok (.iload_n 2, 1) := by decide +kernel
theorem dX10_number_87 : decode cX10_number 87 = .ok (.i2l, 1) := by decide +kernel
theorem dX10_number_88 : decode cX10_number 88 = .ok (.iload_n 3, 1) := by decide +kernel
theorem dX10_number_89 : decode cX10_number 89 = .ok (.i2l, 1) := by decide +kernel
theorem dX10_number_90 : decode cX10_number 90 = .ok (.invokestatic 66, 3) := by decide +kernel
theorem dX10_number_93 : decode cX10_number 93 = .ok (.istore 5, 2) := by decide +kernel
theorem dX10_number_95 : decode cX10_number 95 = .ok (.iload 5, 2) := by decide +kernel
theorem dX10_number_97 : decode cX10_number 97 = .ok (.ifCond .eq 15, 3) := by decide +kernel
theorem dX10_number_100 : decode cX10_number 100 = .ok (.aload_n 0, 1) := by decide +kernel
theorem dX10_number_101 : decode cX10_number 101 = .ok (.getfield 52, 3) := by decide +kernel
theorem dX10_number_104 : decode cX10_number 104 = .ok (.iload_n 1, 1) := by decide +kernel
theorem dX10_number_105 : decode cX10_number 105 = .ok (.iload 4, 2) := by decide +kernel
theorem dX10_number_107 : decode cX10_number 107 = .ok (.iastore, 1) := by decide +kernel
theorem dX10_number_108 : decode cX10_number 108 = .ok (.aload_n 0, 1) := by decide +kernel
theorem dX10_number_109 : decode cX10_number 109 = .ok (.invokevirtual 96, 3) := by decide +kernel
theorem dX10_number_112 : decode cX10_number 112 = .ok (.iload 5, 2) := by decide +kernel
theorem dX10_number_114 : decode cX10_number 114 = .ok (.ireturn, 1) := by decide +kernel
set_option maxRecDepth 20000 in
theorem ggX10_readsOhms_X10_number : GoodIn wsX10_readsOhms wsX10_number := goodIn_r _ [5, 6, 7, 8, 9, 10, 11, 12, 4, 13, 14, 15, 16, 17, 18, 19, 20, 21, 22, 23, 24, 25, 26, 27, 28, 29, 30, 31, 32, 33, 34, 35, 36, 37, 38, 39, 40, 41, 42, 43, 44, 45, 46, 47, 48, 49, 50, 51, 52, 53] (by decide +kernel) (by decide +kernel)
set_option maxRecDepth 20000 in
theorem gX10_readsOhms_X10_number : GoodIn wsX10_readsOhms (wsV RX10 99 RX10 yX10_number wsX10_number) := goodIn_app (goodIn_of _ (by decide +kernel)) ggX10_readsOhms_X10_number
theorem dX10_readsOhms_0 : decode cX10_readsOhms 0 = .ok (.aload_n 0, 1) := by decide +kernel
theorem dX10_readsOhms_1 : decode cX10_readsOhms 1 = .ok (.iload_n 1, 1) := by decide +kernel
theorem dX10_readsOhms_2 : decode cX10_readsOhms 2 = .ok (.iconst 0, 1) := by decide +kernel
theorem dX10_readsOhms_3 : decode cX10_readsOhms 3 = .ok (.bipush 9, 2) := by decide +kernel
theorem dX10_readsOhms_5 : decode cX10_readsOhms 5 = .ok (.invokevirtual 99, 3) := by decide +kernel
theorem dX10_readsOhms_8 : decode cX10_readsOhms 8 = .ok (.ifCond .eq 33, 3) := by decide +kernel
theorem dX10_readsOhms_11 : decode cX10_readsOhms 11 = .ok (.aload_n 0, 1) := by decide +kernel
theorem dX10_readsOhms_12 : decode cX10_readsOhms 12 = .ok (.iload_n 1, 1) := by decide +kernel
theorem dX10_readsOhms_13 : decode cX10_readsOhms 13 = .ok (.iconst 1, 1) := by decide +kernel
theorem dX10_readsOhms_14 : decode cX10_readsOhms 14 = .ok (.iadd, 1) := by decide +kernel
theorem dX10_readsOhms_15 : decode cX10_readsOhms 15 = .ok (.iconst 0, 1) := by decide +kernel
theorem dX10_readsOhms_16 : decode cX10_readsOhms 16 = .ok (.bipush 9, 2) := by decide +kernel
theorem dX10_readsOhms_18 : decode cX10_readsOhms 18 = .ok (.invokevirtual 99, 3) := by decide +kernel
theorem dX10_readsOhms_21 : decode cX10_readsOhms 21 = .ok (.ifCond .eq 20, 3) := by decide +kernel
theorem dX10_readsOhms_24 : decode cX10_readsOhms 24 = .ok (.aload_n 0, 1) := by decide +kernel
theorem dX10_readsOhms_25 : decode cX10_readsOhms 25 = .ok (.iload_n 1, 1) := by decide +kernel
theorem dX10_readsOhms_26 : decode cX10_readsOhms 26 = .ok (.iconst 2, 1) := by decide +kernel
theorem dX10_readsOhms_27 : decode cX10_readsOhms 27 = .ok (.iadd, 1) := by decide +kernel
theorem dX10_readsOhms_28 : decode cX10_readsOhms 28 = .ok (.iconst 0, 1) := by decide +kernel
theorem dX10_readsOhms_29 : decode cX10_readsOhms 29 = .ok (.bipush 9, 2) := by decide +kernel
theorem dX10_readsOhms_31 : decode cX10_readsOhms 31 = .ok (.invokevirtual 99, 3) := by decide +kernel
theorem dX10_readsOhms_34 : decode cX10_readsOhms 34 = .ok (.ifCond .eq 7, 3) := by decide +kernel
theorem dX10_readsOhms_37 : decode cX10_readsOhms 37 = .ok (.iconst 1, 1) := by decide +kernel
theorem dX10_readsOhms_38 : decode cX10_readsOhms 38 = .ok (.goto 4, 3) := by decide +kernel
theorem dX10_readsOhms_41 : decode cX10_readsOhms 41 = .ok (.iconst 0, 1) := by decide +kernel
theorem dX10_readsOhms_42 : decode cX10_readsOhms 42 = .ok (.ireturn, 1) := by decide +kernel
set_option maxRecDepth 20000 in
theorem ggX10_readsRest_X10_number : GoodIn wsX10_readsRest wsX10_number := goodIn_r _ [6, 7, 8, 9, 10, 11, 12, 13, 5, 14, 15, 16, 17, 18, 19, 20, 21, 22, 23, 24, 25, 26, 27, 28, 33, 34, 35, 36, 37, 38, 39, 40, 41, 42, 43, 44, 45, 46, 47, 48, 49, 50, 51, 52, 53, 54, 55, 56, 57, 58] (by decide +kernel) (by decide +kernel)
set_option maxRecDepth 20000 in
theorem gX10_readsRest_X10_number : GoodIn wsX10_readsRest (wsV RX10 99 RX10 yX10_number wsX10_number) := goodIn_app (goodIn_of _ (by decide +kernel)) ggX10_readsRest_X10_number
set_option maxRecDepth 20000 in
theorem ggX10_readsRest_X10_readsOhms : GoodIn wsX10_readsRest wsX10_readsOhms := goodIn_r _ [32, 2, 3, 4, 5, 6, 7, 8, 9, 10, 11, 12, 13, 14, 15, 16, 17, 18, 19, 20, 21, 22, 23, 24, 25, 26, 27, 28, 33, 34, 35, 36, 37, 38, 39, 40, 41, 42, 43, 44, 45, 46, 47, 48, 49, 50, 51, 52, 53, 54, 55, 56, 57, 58] (by decide +kernel) (by decide +kernel)
set_option maxRecDepth 20000 in
theorem gX10_readsRest_X10_readsOhms : GoodIn wsX10_readsRest (wsV RX10 103 RX10 yX10_readsOhms wsX10_readsOhms) := goodIn_app (goodIn_of _ (by decide +kernel)) ggX10_readsRest_X10_readsOhms
theorem dX10_readsRest_0 : decode cX10_readsRest 0 = .ok (.iload_n 1, 1) := by decide +kernel
theorem dX10_readsRest_1 : decode cX10_readsRest 1 = .ok (.tableswitch 71 0 2 #[27, 36, 42], 27) := by decide +kernel
theorem dX10_readsRest_28 : decode cX10_readsRest 28 = .ok (.aload_n 0, 1) := by decide +kernel
theorem dX10_readsRest_29 : decode cX10_readsRest 29 = .ok (.iconst 0, 1) := by decide +kernel
theorem dX10_readsRest_30 : decode cX10_readsRest 30 = .ok (.iconst 1, 1) := by decide +kernel
theorem dX10_readsRest_31 : decode cX10_readsRest 31 = .ok (.bipush 99, 2) := by decide +kernel
theorem dX10_readsRest_33 : decode cX10_readsRest 33 = .ok (.invokevirtual 99, 3) := by decide +kernel
theorem dX10_readsRest_36 : decode cX10_readsRest 36 = .ok (.ireturn, 1) := by decide +kernel
theorem dX10_readsRest_37 : decode cX10_readsRest 37 = .ok (.aload_n 0, 1) := by decide +kernel
theorem dX10_readsRest_38 : decode cX10_readsRest 38 = .ok (.iconst 0, 1) := by decide +kernel
theorem dX10_readsRest_39 : decode cX10_readsRest 39 = .ok (.invokevirtual 103, 3) := by decide +kernel
theorem dX10_readsRest_42 : decode cX10_readsRest 42 = .ok (.ireturn, 1) := by decide +kernel
theorem dX10_readsRest_43 : decode cX10_readsRest 43 = .ok (.aload_n 0, 1) := by decide +kernel
theorem dX10_readsRest_44 : decode cX10_readsRest 44 = .ok (.iconst 0, 1) := by decide +kernel
theorem dX10_readsRest_45 : decode cX10_readsRest 45 = .ok (.iconst 0, 1) := by decide +kernel
theorem dX10_readsRest_46 : decode cX10_readsRest 46 = .ok (.aload_n 0, 1) := by decide +kernel
theorem dX10_readsRest_47 : decode cX10_readsRest 47 = .ok (.getfield 106, 3) := by decide +kernel
theorem dX10_readsRest_50 : decode cX10_readsRest 50 = .ok (.iconst 1, 1) := by decide +kernel
theorem dX10_readsRest_51 : decode cX10_readsRest 51 = .ok (.isub, 1) := by decide +kernel
theorem dX10_readsRest_52 : decode cX10_readsRest 52 = .ok (.invokevirtual 99, 3) := by decide +kernel
theorem dX10_readsRest_55 : decode cX10_readsRest 55 = .ok (.ifCond .eq 15, 3) := by decide +kernel
theorem dX10_readsRest_58 : decode cX10_readsRest 58 = .ok (.aload_n 0, 1) := by decide +kernel
theorem dX10_readsRest_59 : decode cX10_readsRest 59 = .ok (.iconst 1, 1) := by decide +kernel
theorem dX10_readsRest_60 : decode cX10_readsRest 60 = .ok (.invokevirtual 103, 3) := by decide +kernel
theorem dX10_readsRest_63 : decode cX10_readsRest 63 = .ok (.ifCond .eq 7, 3) := by decide +kernel
theorem dX10_readsRest_66 : decode cX10_readsRest 66 = .ok (.iconst 1, 1) := by decide +kernel
theorem dX10_readsRest_67 : decode cX10_readsRest 67 = .ok (.goto 4, 3) := by decide +kernel
theorem dX10_readsRest_70 : decode cX10_readsRest 70 = .ok (.iconst 0, 1) := by decide +kernel
theorem dX10_readsRest_71 : decode cX10_readsRest 71 = .ok (.ireturn, 1) := by decide +kernel
theorem dX10_readsRest_72 : decode cX10_readsRest 72 = .ok (.aload_n 0, 1) := by decide +kernel
theorem dX10_readsRest_73 : decode cX10_readsRest 73 = .ok (.iconst 0, 1) := by decide +kernel
theorem dX10_readsRest_74 : decode cX10_readsRest 74 = .ok (.iconst 1, 1) := by decide +kernel
theorem dX10_readsRest_75 : decode cX10_readsRest 75 = .ok (.aload_n 0, 1) := by decide +kernel
theorem dX10_readsRest_76 : decode cX10_readsRest 76 = .ok (.getfield 106, 3) := by decide +kernel
theorem dX10_readsRest_79 : decode cX10_readsRest 79 = .ok (.iconst 1, 1) := by decide +kernel
theorem dX10_readsRest_80 : decode cX10_readsRest 80 = .ok (.isub, 1) := by decide +kernel
theorem dX10_readsRest_81 : decode cX10_readsRest 81 = .ok (.invokevirtual 99, 3) := by decide +kernel
theorem dX10_readsRest_84 : decode cX10_readsRest 84 = .ok (.ifCond .eq 19, 3) := by decide +kernel
theorem dX10_readsRest_87 : decode cX10_readsRest 87 = .ok (.aload_n 0, 1) := by decide +kernel
theorem dX10_readsRest_88 : decode cX10_readsRest 88 = .ok (.iconst 1, 1) := by decide +kernel
theorem dX10_readsRest_89 : decode cX10_readsRest 89 = .ok (.iconst 0, 1) := by decide +kernel
theorem dX10_readsRest_90 : decode cX10_readsRest 90 = .ok (.sipush 999, 3) := by decide +kernel
theorem dX10_readsRest_93 : decode cX10_readsRest 93 = .ok (.invokevirtual 99, 3) := by decide +kernel
theorem dX10_readsRest_96 : decode cX10_readsRest 96 = .ok (.ifCond .eq 7, 3) := by decide +kernel
theorem dX10_readsRest_99 : decode cX10_readsRest 99 = .ok (.iconst 1, 1) := by decide +kernel
theorem dX10_readsRest_100 : decode cX10_readsRest 100 = .ok (.goto 4, 3) := by decide +kernel
theorem dX10_readsRest_103 : decode cX10_readsRest 103 = .ok (.iconst 0, 1) := by decide +kernel
theorem dX10_readsRest_104 : decode cX10_readsRest 104 = .ok (.ireturn, 1) := by decide +kernel
theorem dX10_layOhms_0 : decode cX10_layOhms 0 = .ok (.iconst 0, 1) := by decide +kernel
theorem dX10_layOhms_1 : decode cX10_layOhms 1 = .ok (.istore_n 3, 1) := by decide +kernel
theorem dX10_layOhms_2 : decode cX10_layOhms 2 = .ok (.iload_n 3, 1) := by decide +kernel
theorem dX10_layOhms_3 : decode cX10_layOhms 3 = .ok (.iconst 3, 1) := by decide +kernel
theorem dX10_layOhms_4 : decode cX10_layOhms 4 = .ok (.if_icmp .ge 27, 3) := by decide +kernel
theorem dX10_layOhms_7 : decode cX10_layOhms 7 = .ok (.aload_n 0, 1) := by decide +kernel
theorem dX10_layOhms_8 : decode cX10_layOhms 8 = .ok (.getfield 27, 3) := by decide +kernel
theorem dX10_layOhms_11 : decode cX10_layOhms 11 = .ok (.iconst 3, 1) := by decide +kernel
theorem dX10_layOhms_12 : decode cX10_layOhms 12 = .ok (.iload_n 1, 1) := by decide +kernel
theorem dX10_layOhms_13 : decode cX10_layOhms 13 = .ok (.imul, 1) := by decide +kernel
theorem dX10_layOhms_14 : decode cX10_layOhms 14 = .ok (.iload_n 3, 1) := by decide +kernel
theorem dX10_layOhms_15 : decode cX10_layOhms 15 = .ok (.iadd, 1) := by decide +kernel
theorem dX10_layOhms_16 : decode cX10_layOhms 16 = .ok (.aload_n 0, 1) := by decide +kernel
theorem dX10_layOhms_17 : decode cX10_layOhms 17 = .ok (.getfield 52, 3) := by decide +kernel
theorem dX10_layOhms_20 : decode cX10_layOhms 20 = .ok (.iload_n 2, 1) := by decide +kernel
theorem dX10_layOhms_21 : decode cX10_layOhms 21 = .ok (.iload_n 3, 1) := by decide +kernel
theorem dX10_layOhms_22 : decode cX10_layOhms 22 = .ok (.iadd, 1) := by decide +kernel
theorem dX10_layOhms_23 : decode cX10_layOhms 23 = .ok (.iaload, 1) := by decide +kernel
theorem dX10_layOhms_24 : decode cX10_layOhms 24 = .ok (.iastore, 1) := by decide +kernel
theorem dX10_layOhms_25 : decode cX10_layOhms 25 = .ok (.iinc 3 1, 3) := by decide +kernel
theorem dX10_layOhms_28 : decode cX10_layOhms 28 = .ok (.goto (-26), 3) := by decide +kernel
theorem dX10_layOhms_31 : decode cX10_layOhms 31 = .ok (.return_, 1) := by decide +kernel
set_option maxRecDepth 20000 in
theorem ggX10_does_X10_layOhms : GoodIn wsX10_does wsX10_layOhms := goodIn_r _ [11, 4, 1, 12, 13, 14, 15, 16, 17, 18, 19, 20, 21, 22, 23, 24, 25, 26, 27, 28, 29, 30, 31, 32, 33, 34, 35, 36, 37] (by decide +kernel) (by decide +kernel)
set_option maxRecDepth 20000 in
theorem gX10_does_X10_layOhms : GoodIn wsX10_does (wsV RX10 109 RX10 yX10_layOhms wsX10_layOhms) := goodIn_app (goodIn_of _ (by decide +kernel)) ggX10_does_X10_layOhms
theorem dX10_does_0 : decode cX10_does 0 = .ok (.iload_n 1, 1) := by decide +kernel
theorem dX10_does_1 : decode cX10_does 1 = .ok (.tableswitch 122 0 2 #[27, 66, 75], 27) := by decide +kernel
theorem dX10_does_28 : decode cX10_does 28 = .ok (.aload_n 0, 1) := by decide +kernel
theorem dX10_does_29 : decode cX10_does 29 = .ok (.aload_n 0, 1) := by decide +kernel
theorem dX10_does_30 : decode cX10_does 30 = .ok (.getfield 52, 3) := by decide +kernel
theorem dX10_does_33 : decode cX10_does 33 = .ok (.iconst 0, 1) := by decide +kernel
theorem dX10_does_34 : decode cX10_does 34 = .ok (.iaload, 1) := by decide +kernel
theorem dX10_does_35 : decode cX10_does 35 = .ok (.putfield 16, 3) := by decide +kernel
theorem dX10_does_38 : decode cX10_does 38 = .ok (.aload_n 0, 1) := by decide +kernel
theorem dX10_does_39 : decode cX10_does 39 = .ok (.iconst 1, 1) := by decide +kernel
theorem dX10_does_40 : decode cX10_does 40 = .ok (.putfield 20, 3) := by decide +kernel
theorem dX10_does_43 : decode cX10_does 43 = .ok (.aload_n 0, 1) := by decide +kernel
theorem dX10_does_44 : decode cX10_does 44 = .ok (.getfield 27, 3) := by decide +kernel
theorem dX10_does_47 : decode cX10_does 47 = .ok (.iconst 0, 1) := by decide +kernel
theorem dX10_does_48 : decode cX10_does 48 = .ok (.iconst 1, 1) := by decide +kernel
theorem dX10_does_49 : decode cX10_does 49 = .ok (.iastore, 1) := by decide +kernel
theorem dX10_does_50 : decode cX10_does 50 = .ok (.aload_n 0, 1) := by decide +kernel
theorem dX10_does_51 : decode cX10_does 51 = .ok (.getfield 27, 3) := by decide +kernel
theorem dX10_does_54 : decode cX10_does 54 = .ok (.iconst 1, 1) := by decide +kernel
theorem dX10_does_55 : decode cX10_does 55 = .ok (.iconst 1, 1) := by decide +kernel
theorem dX10_does_56 : decode cX10_does 56 = .ok (.iastore, 1) := by decide +kernel
theorem dX10_does_57 : decode cX10_does 57 = .ok (.aload_n 0, 1) := by decide +kernel
theorem dX10_does_58 : decode cX10_does 58 = .ok (.getfield 27, 3) := by decide +kernel
theorem dX10_does_61 : decode cX10_does 61 = .ok (.iconst 2, 1) := by decide +kernel
theorem dX10_does_62 : decode cX10_does 62 = .ok (.iconst 1, 1) := by decide +kernel
theorem dX10_does_63 : decode cX10_does 63 = .ok (.iastore, 1) := by decide +kernel
theorem dX10_does_64 : decode cX10_does 64 = .ok (.goto 76, 3) := by decide +kernel
theorem dX10_does_67 : decode cX10_does 67 = .ok (.aload_n 0, 1) := by decide +kernel
theorem dX10_does_68 : decode cX10_does 68 = .ok (.iconst 0, 1) := by decide +kernel
theorem dX10_does_69 : decode cX10_does 69 = .ok (.iconst 0, 1) := by decide +kernel
theorem dX10_does_70 : decode cX10_does 70 = .ok (.invokevirtual 109, 3) := by decide +kernel
theorem dX10_does_73 : decode cX10_does 73 = .ok (.goto 67, 3) := by decide +kernel
theorem dX10_does_76 : decode cX10_does 76 = .ok (.aload_n 0, 1) := by decide +kernel
theorem dX10_does_77 : decode cX10_does 77 = .ok (.getfield 23, 3) := by decide +kernel
theorem dX10_does_80 : decode cX10_does 80 = .ok (.aload_n 0, 1) := by decide +kernel
theorem dX10_does_81 : decode cX10_does 81 = .ok (.getfield 20, 3) := by decide +kernel
theorem dX10_does_84 : decode cX10_does 84 = .ok (.aload_n 0, 1) := by decide +kernel
theorem dX10_does_85 : decode cX10_does 85 = .ok (.getfield 52, 3) := by decide +kernel
theorem dX10_does_88 : decode cX10_does 88 = .ok (.iconst 0, 1) := by decide +kernel
theorem dX10_does_89 : decode cX10_does 89 = .ok (.iaload, 1) := by decide +kernel
theorem dX10_does_90 : decode cX10_does 90 = .ok (.iastore, 1) := by decide +kernel
theorem dX10_does_91 : decode cX10_does 91 = .ok (.aload_n 0, 1) := by decide +kernel
theorem dX10_does_92 : decode cX10_does 92 = .ok (.aload_n 0, 1) := by decide +kernel
theorem dX10_does_93 : decode cX10_does 93 = .ok (.getfield 20, 3) := by decide +kernel
theorem dX10_does_96 : decode cX10_does 96 = .ok (.iconst 1, 1) := by decide +kernel
theorem dX10_does_97 : decode cX10_does 97 = .ok (.invokevirtual 109, 3) := by decide +kernel
theorem dX10_does_100 : decode cX10_does 100 = .ok (.aload_n 0, 1) := by decide +kernel
theorem dX10_does_101 : decode cX10_does 101 = .ok (.getfield 30, 3) := by decide +kernel
theorem dX10_does_104 : decode cX10_does 104 = .ok (.aload_n 0, 1) := by decide +kernel
theorem dX10_does_105 : decode cX10_does 105 = .ok (.getfield 20, 3) := by decide +kernel
theorem dX10_does_108 : decode cX10_does 108 = .ok (.iconst 0, 1) := by decide +kernel
theorem dX10_does_109 : decode cX10_does 109 = .ok (.iastore, 1) := by decide +kernel
theorem dX10_does_110 : decode cX10_does 110 = .ok (.aload_n 0, 1) := by decide +kernel
theorem dX10_does_111 : decode cX10_does 111 = .ok (.dup, 1) := by decide +kernel
theorem dX10_does_112 : decode cX10_does 112 = .ok (.getfield 20, 3) := by decide +kernel
theorem dX10_does_115 : decode cX10_does 115 = .ok (.iconst 1, 1) := by decide +kernel
theorem dX10_does_116 : decode cX10_does 116 = .ok (.iadd, 1) := by decide +kernel
theorem dX10_does_117 : decode cX10_does 117 = .ok (.putfield 20, 3) := by decide +kernel
theorem dX10_does_120 : decode cX10_does 120 = .ok (.goto 20, 3) := by decide +kernel
theorem dX10_does_123 : decode cX10_does 123 = .ok (.aload_n 0, 1) := by decide +kernel
theorem dX10_does_124 : decode cX10_does 124 = .ok (.getfield 30, 3) := by decide +kernel
theorem dX10_does_127 : decode cX10_does 127 = .ok (.aload_n 0, 1) := by decide +kernel
theorem dX10_does_128 : decode cX10_does 128 = .ok (.getfield 52, 3) := by decide +kernel
theorem dX10_does_131 : decode cX10_does 131 = .ok (.iconst 0, 1) := by decide +kernel
theorem dX10_does_132 : decode cX10_does 132 = .ok (.iaload, 1) := by decide +kernel
theorem dX10_does_133 : decode cX10_does 133 = .ok (.aload_n 0, 1) := by decide +kernel
theorem dX10_does_134 : decode cX10_does 134 = .ok (.getfield 52, 3) := by decide +kernel
theorem dX10_does_137 : decode cX10_does 137 = .ok (.iconst 1, 1) := by decide +kernel
theorem dX10_does_138 : decode cX10_does 138 = .ok (.iaload, 1) := by decide +kernel
theorem dX10_does_139 : decode cX10_does 139 = .ok (.iastore, 1) := by decide +kernel
theorem dX10_does_140 : decode cX10_does 140 = .ok (.return_, 1) := by decide +kernel
set_option maxRecDepth 20000 in
theorem ggX10_readsClause_X10_wordHere : GoodIn wsX10_readsClause wsX10_wordHere := goodIn_r _ [7, 8, 9, 10, 11, 56, 57, 58, 59, 60, 61, 62, 63, 64, 65, 66, 67, 68, 69, 70, 71, 72, 73, 74, 75, 76, 77, 78, 79, 80, 81] (by decide +kernel) (by decide +kernel)
set_option maxRecDepth 20000 in
theorem gX10_readsClause_X10_wordHere : GoodIn wsX10_readsClause (wsV RX10 113 RX10 yX10_wordHere wsX10_wordHere) := goodIn_app (goodIn_of _ (by decide +kernel)) ggX10_readsClause_X10_wordHere
set_option maxRecDepth 20000 in
theorem ggX10_readsClause_X10_nextToken : GoodIn wsX10_readsClause wsX10_nextToken := goodIn_r _ [15, 8, 9, 16, 11, 17, 18, 6, 19, 20, 21, 22, 23, 24, 25, 26, 27, 28, 29, 56, 57, 58, 59, 60, 61, 62, 63, 64, 65, 66, 67, 68, 69, 70, 71, 72, 73, 74, 75, 76, 77, 78, 79, 80, 81] (by decide +kernel) (by decide +kernel)
set_option maxRecDepth 20000 in
theorem gX10_readsClause_X10_nextToken : GoodIn wsX10_readsClause (wsV RX10 96 RX10 yX10_nextToken wsX10_nextToken) := goodIn_app (goodIn_of _ (by decide +kernel)) ggX10_readsClause_X10_nextToken
set_option maxRecDepth 20000 in
theorem ggX10_readsClause_X10_readsRest : GoodIn wsX10_readsClause wsX10_readsRest := goodIn_r _ [33, 1, 34, 35, 36, 6, 37, 9, 16, 11, 8, 38, 25, 26, 27, 28, 29, 22, 23, 24, 12, 13, 14, 15, 17, 18, 19, 20, 21, 39, 40, 41, 42, 56, 57, 58, 59, 60, 61, 62, 63, 64, 65, 66, 67, 68, 69, 70, 71, 72, 73, 74, 75, 76, 77, 78, 79, 80, 81] (by decide +kernel) (by decide +kernel)
set_option maxRecDepth 20000 in
theorem gX10_readsClause_X10_readsRest : GoodIn wsX10_readsClause (wsV RX10 117 RX10 yX10_readsRest wsX10_readsRest) := goodIn_app (goodIn_of _ (by decide +kernel)) ggX10_readsClause_X10_readsRest
set_option maxRecDepth 20000 in
theorem ggX10_readsClause_X10_does : GoodIn wsX10_readsClause wsX10_does := goodIn_r _ [46, 38, 47, 48, 49, 50, 51, 52, 53, 54, 6, 55, 56, 57, 58, 59, 60, 61, 62, 63, 64, 65, 66, 67, 68, 69, 70, 71, 72, 73, 74, 75, 76, 77, 78, 79, 80, 81] (by decide +kernel) (by decide +kernel)
set_option maxRecDepth 20000 in
theorem gX10_readsClause_X10_does : GoodIn wsX10_readsClause (wsV RX10 124 RX10 yX10_does wsX10_does) := goodIn_app (goodIn_of _ (by decide +kernel)) ggX10_readsClause_X10_does
theorem dX10_readsClause_0 : decode cX10_readsClause 0 = .ok (.aload_n 0, 1) := by decide +kernel
theorem dX10_readsClause_1 : decode cX10_readsClause 1 = .ok (.invokevirtual 113, 3) := by decide +kernel
theorem dX10_readsClause_4 : decode cX10_readsClause 4 = .ok (.istore_n 1, 1) := by decide +kernel
theorem dX10_readsClause_5 : decode cX10_readsClause 5 = .ok (.iload_n 1, 1) := by decide +kernel
theorem dX10_readsClause_6 : decode cX10_readsClause 6 = .ok (.iconst (-1), 1) := by decide +kernel
theorem dX10_readsClause_7 : decode cX10_readsClause 7 = .ok (.if_icmp .eq 17, 3) := by decide +kernel
theorem dX10_readsClause_10 : decode cX10_readsClause 10 = .ok (.iload_n 1, 1) := by decide +kernel
theorem dX10_readsClause_11 : decode cX10_readsClause 11 = .ok (.iconst 2, 1) := by decide +kernel
theorem dX10_readsClause_12 : decode cX10_readsClause 12 = .ok (.if_icmp .ne 14, 3) := by decide +kernel
theorem dX10_readsClause_15 : decode cX10_readsClause 15 = .ok (.aload_n 0, 1) := by decide +kernel
theorem dX10_readsClause_16 : decode cX10_readsClause 16 = .ok (.getfield 106, 3) := by decide +kernel
theorem dX10_readsClause_19 : decode cX10_readsClause 19 = .ok (.bipush 6, 2) := by decide +kernel
theorem dX10_readsClause_21 : decode cX10_readsClause 21 = .ok (.if_icmp .ne 5, 3) := by decide +kernel
theorem dX10_readsClause_24 : decode cX10_readsClause 24 = .ok (.iconst 0, 1) := by decide +kernel
theorem dX10_readsClause_25 : decode cX10_readsClause 25 = .ok (.ireturn, 1) := by decide +kernel
theorem dX10_readsClause_26 : decode cX10_readsClause 26 = .ok (.aload_n 0, 1) := by decide +kernel
theorem dX10_readsClause_27 : decode cX10_readsClause 27 = .ok (.invokevirtual 96, 3) := by decide +kernel
theorem dX10_readsClause_30 : decode cX10_readsClause 30 = .ok (.aload_n 0, 1) := by decide +kernel
theorem dX10_readsClause_31 : decode cX10_readsClause 31 = .ok (.iload_n 1, 1) := by decide +kernel
theorem dX10_readsClause_32 : decode cX10_readsClause 32 = .ok (.invokevirtual 117, 3) := by decide +kernel
theorem dX10_readsClause_35 : decode cX10_readsClause 35 = .ok (.ifCond .ne 5, 3) := by decide +kernel
theorem dX10_readsClause_38 : decode cX10_readsClause 38 = .ok (.iconst 0, 1) := by decide +kernel
theorem dX10_readsClause_39 : decode cX10_readsClause 39 = .ok (.ireturn, 1) := by decide +kernel
theorem dX10_readsClause_40 : decode cX10_readsClause 40 = .ok (.aload_n 0, 1) := by decide +kernel
theorem dX10_readsClause_41 : decode cX10_readsClause 41 = .ok (.iload_n 1, 1) := by decide +kernel
theorem dX10_readsClause_42 : decode cX10_readsClause 42 = .ok (.ifCond .ne 7, 3) := by decide +kernel
theorem dX10_readsClause_45 : decode cX10_readsClause 45 = .ok (.iconst 1, 1) := by decide +kernel
theorem dX10_readsClause_46 : decode cX10_readsClause 46 = .ok (.goto 21, 3) := by decide +kernel
theorem dX10_readsClause_49 : decode cX10_readsClause 49 = .ok (.iload_n 1, 1) := by decide +kernel
theorem dX10_readsClause_50 : decode cX10_readsClause 50 = .ok (.iconst 2, 1) := by decide +kernel
theorem dX10_readsClause_51 : decode cX10_readsClause 51 = .ok (.if_icmp .ne 12, 3) := by decide +kernel
theorem dX10_readsClause_54 : decode cX10_readsClause 54 = .ok (.aload_n 0, 1) := by decide +kernel
theorem dX10_readsClause_55 : decode cX10_readsClause 55 = .ok (.getfield 106, 3) := by decide +kernel
theorem dX10_readsClause_58 : decode cX10_readsClause 58 = .ok (.iconst 1, 1) := by decide +kernel
theorem dX10_readsClause_59 : decode cX10_readsClause 59 = .ok (.iadd, 1) := by decide +kernel
theorem dX10_readsClause_60 : decode cX10_readsClause 60 = .ok (.goto 7, 3) := by decide +kernel
theorem dX10_readsClause_63 : decode cX10_readsClause 63 = .ok (.aload_n 0, 1) := by decide +kernel
theorem dX10_readsClause_64 : decode cX10_readsClause 64 = .ok (.getfield 106, 3) := by decide +kernel
theorem dX10_readsClause_67 : decode cX10_readsClause 67 = .ok (.putfield 106, 3) := by decide +kernel
theorem dX10_readsClause_70 : decode cX10_readsClause 70 = .ok (.aload_n 0, 1) := by decide +kernel
theorem dX10_readsClause_71 : decode cX10_readsClause 71 = .ok (.getfield 120, 3) := by decide +kernel
theorem dX10_readsClause_74 : decode cX10_readsClause 74 = .ok (.ifCond .eq 8, 3) := by decide +kernel
theorem dX10_readsClause_77 : decode cX10_readsClause 77 = .ok (.aload_n 0, 1) := by decide +kernel
theorem dX10_readsClause_78 : decode cX10_readsClause 78 = .ok (.iload_n 1, 1) := by decide +kernel
theorem dX10_readsClause_79 : decode cX10_readsClause 79 = .ok (.invokevirtual 124, 3) := by decide +kernel
theorem dX10_readsClause_82 : decode cX10_readsClause 82 = .ok (.iconst 1, 1) := by decide +kernel
theorem dX10_readsClause_83 : decode cX10_readsClause 83 = .ok (.ireturn, 1) := by decide +kernel
set_option maxRecDepth 20000 in
theorem ggX10_reads_X10_nextToken : GoodIn wsX10_reads wsX10_nextToken := goodIn_r _ [13, 2, 6, 7, 8, 14, 15, 12, 16, 17, 18, 19, 20, 21, 22, 23, 24, 25, 26, 61, 62, 63, 64, 65, 66, 67, 68, 69, 70, 71, 72, 73, 74, 75, 76, 77, 78, 79, 80, 81, 82, 83, 84, 85, 86] (by decide +kernel) (by decide +kernel)
set_option maxRecDepth 20000 in
theorem gX10_reads_X10_nextToken : GoodIn wsX10_reads (wsV RX10 96 RX10 yX10_nextToken wsX10_nextToken) := goodIn_app (goodIn_of _ (by decide +kernel)) ggX10_reads_X10_nextToken
set_option maxRecDepth 20000 in
theorem ggX10_reads_X10_readsClause : GoodIn wsX10_reads wsX10_readsClause := goodIn_r _ [30, 5, 1, 31, 32, 33, 12, 34, 2, 6, 35, 8, 9, 10, 11, 13, 7, 14, 15, 16, 17, 18, 19, 20, 21, 22, 23, 24, 25, 26, 36, 37, 38, 39, 40, 41, 42, 43, 44, 45, 46, 47, 48, 49, 50, 51, 52, 53, 4, 54, 55, 56, 57, 58, 59, 60, 61, 62, 63, 64, 65, 66, 67, 68, 69, 70, 71, 72, 73, 74, 75, 76, 77, 78, 79, 80, 81, 82, 83, 84, 85, 86] (by decide +kernel) (by decide +kernel)
set_option maxRecDepth 20000 in
theorem gX10_reads_X10_readsClause : GoodIn wsX10_reads (wsV RX10 131 RX10 yX10_readsClause wsX10_readsClause) := goodIn_app (goodIn_of _ (by decide +kernel)) ggX10_reads_X10_readsClause
theorem dX10_reads_0 : decode cX10_reads 0 = .ok (.aload_n 0, 1) := by decide +kernel
theorem dX10_reads_1 : decode cX10_reads 1 = .ok (.iload_n 1, 1) := by decide +kernel
theorem dX10_reads_2 : decode cX10_reads 2 = .ok (.putfield 120, 3) := by decide +kernel
theorem dX10_reads_5 : decode cX10_reads 5 = .ok (.aload_n 0, 1) := by decide +kernel
theorem dX10_reads_6 : decode cX10_reads 6 = .ok (.iconst 0, 1) := by decide +kernel
theorem dX10_reads_7 : decode cX10_reads 7 = .ok (.putfield 83, 3) := by decide +kernel
theorem dX10_reads_10 : decode cX10_reads 10 = .ok (.aload_n 0, 1) := by decide +kernel
theorem dX10_reads_11 : decode cX10_reads 11 = .ok (.iconst 1, 1) := by decide +kernel
theorem dX10_reads_12 : decode cX10_reads 12 = .ok (.putfield 128, 3) := by decide +kernel
theorem dX10_reads_15 : decode cX10_reads 15 = .ok (.aload_n 0, 1) := by decide +kernel
theorem dX10_reads_16 : decode cX10_reads 16 = .ok (.aload_n 0, 1) := by decide +kernel
theorem dX10_reads_17 : decode cX10_reads 17 = .ok (.getfield 20, 3) := by decide +kernel
theorem dX10_reads_20 : decode cX10_reads 20 = .ok (.putfield 106, 3) := by decide +kernel
theorem dX10_reads_23 : decode cX10_reads 23 = .ok (.aload_n 0, 1) := by decide +kernel
theorem dX10_reads_24 : decode cX10_reads 24 = .ok (.invokevirtual 96, 3) := by decide +kernel
theorem dX10_reads_27 : decode cX10_reads 27 = .ok (.aload_n 0, 1) := by decide +kernel
theorem dX10_reads_28 : decode cX10_reads 28 = .ok (.invokevirtual 131, 3) := by decide +kernel
theorem dX10_reads_31 : decode cX10_reads 31 = .ok (.istore_n 2, 1) := by decide +kernel
theorem dX10_reads_32 : decode cX10_reads 32 = .ok (.iload_n 2, 1) := by decide +kernel
theorem dX10_reads_33 : decode cX10_reads 33 = .ok (.ifCond .eq 69, 3) := by decide +kernel
theorem dX10_reads_36 : decode cX10_reads 36 = .ok (.aload_n 0, 1) := by decide +kernel
theorem dX10_reads_37 : decode cX10_reads 37 = .ok (.getfield 86, 3) := by decide +kernel
theorem dX10_reads_40 : decode cX10_reads 40 = .ok (.aload_n 0, 1) := by decide +kernel
theorem dX10_reads_41 : decode cX10_reads 41 = .ok (.getfield 71, 3) := by decide +kernel
theorem dX10_reads_44 : decode cX10_reads 44 = .ok (.if_icmp .ge 58, 3) := by decide +kernel
theorem dX10_reads_47 : decode cX10_reads 47 = .ok (.aload_n 0, 1) := by decide +kernel
theorem dX10_reads_48 : decode cX10_reads 48 = .ok (.getfield 128, 3) := by decide +kernel
theorem dX10_reads_51 : decode cX10_reads 51 = .ok (.bipush 24, 2) := by decide +kernel
theorem dX10_reads_53 : decode cX10_reads 53 = .ok (.if_icmp .ge 21, 3) := by decide +kernel
theorem dX10_reads_56 : decode cX10_reads 56 = .ok (.aload_n 0, 1) := by decide +kernel
theorem dX10_reads_57 : decode cX10_reads 57 = .ok (.getfield 37, 3) := by decide +kernel
theorem dX10_reads_60 : decode cX10_reads 60 = .ok (.aload_n 0, 1) := by decide +kernel
theorem dX10_reads_61 : decode cX10_reads 61 = .ok (.getfield 86, 3) := by decide +kernel
theorem dX10_reads_64 : decode cX10_reads 64 = .ok (.iaload, 1) := by decide +kernel
theorem dX10_reads_65 : decode cX10_reads 65 = .ok (.bipush 59, 2) := by decide +kernel
theorem dX10_reads_67 : decode cX10_reads 67 = .ok (.if_icmp .ne 7, 3) := by decide +kernel
theorem dX10_reads_70 : decode cX10_reads 70 = .ok (.iconst 1, 1) := by decide +kernel
theorem dX10_reads_71 : decode cX10_reads 71 = .ok (.goto 4, 3) := by decide +kernel
theorem dX10_reads_74 : decode cX10_reads 74 = .ok (.iconst 0, 1) := by decide +kernel
theorem dX10_reads_75 : decode cX10_reads 75 = .ok (.istore_n 2, 1) := by decide +kernel
theorem dX10_reads_76 : decode cX10_reads 76 = .ok (.iload_n 2, 1) := by decide +kernel
theorem dX10_reads_77 : decode cX10_reads 77 = .ok (.ifCond .eq (-45), 3) := by decide +kernel
theorem dX10_reads_80 : decode cX10_reads 80 = .ok (.aload_n 0, 1) := by decide +kernel
theorem dX10_reads_81 : decode cX10_reads 81 = .ok (.invokevirtual 96, 3) := by decide +kernel
theorem dX10_reads_84 : decode cX10_reads 84 = .ok (.aload_n 0, 1) := by decide +kernel
theorem dX10_reads_85 : decode cX10_reads 85 = .ok (.invokevirtual 131, 3) := by decide +kernel
theorem dX10_reads_88 : decode cX10_reads 88 = .ok (.istore_n 2, 1) := by decide +kernel
theorem dX10_reads_89 : decode cX10_reads 89 = .ok (.aload_n 0, 1) := by decide +kernel
theorem dX10_reads_90 : decode cX10_reads 90 = .ok (.dup, 1) := by decide +kernel
theorem dX10_reads_91 : decode cX10_reads 91 = .ok (.getfield 128, 3) := by decide +kernel
theorem dX10_reads_94 : decode cX10_reads 94 = .ok (.iconst 1, 1) := by decide +kernel
theorem dX10_reads_95 : decode cX10_reads 95 = .ok (.iadd, 1) := by decide +kernel
theorem dX10_reads_96 : decode cX10_reads 96 = .ok (.putfield 128, 3) := by decide +kernel
theorem dX10_reads_99 : decode cX10_reads 99 = .ok (.goto (-67), 3) := by decide +kernel
theorem dX10_reads_102 : decode cX10_reads 102 = .ok (.iload_n 2, 1) := by decide +kernel
theorem dX10_reads_103 : decode cX10_reads 103 = .ok (.ireturn, 1) := by decide +kernel
set_option maxRecDepth 20000 in
theorem ggX10_fault_X10_reads : GoodIn wsX10_fault wsX10_reads := goodIn_r _ [6, 7, 8, 9, 10, 11, 1, 12, 13, 14, 15, 16, 5, 17, 18, 19, 20, 21, 22, 23, 24, 25, 26, 27, 28, 29, 30, 31, 32, 33, 34, 35, 36, 37, 38, 39, 40, 41, 42, 43, 44, 45, 46, 47, 48, 49, 50, 51, 52, 53, 54, 55, 56, 57, 58, 59, 60, 61, 62, 63, 64, 65, 66, 67, 68, 69, 70, 71, 72, 73, 74, 75, 76, 77, 78, 79, 80, 81, 82, 83, 84, 85, 86, 87, 88, 89, 90] (by decide +kernel) (by decide +kernel)
set_option maxRecDepth 20000 in
theorem gX10_fault_X10_reads : GoodIn wsX10_fault (wsV RX10 135 RX10 yX10_reads wsX10_reads) := goodIn_app (goodIn_of _ (by decide +kernel)) ggX10_fault_X10_reads
theorem dX10_fault_0 : decode cX10_fault 0 = .ok (.aload_n 0, 1) := by decide +kernel
theorem dX10_fault_1 : decode cX10_fault 1 = .ok (.iconst 0, 1) := by decide +kernel
theorem dX10_fault_2 : decode cX10_fault 2 = .ok (.invokevirtual 135, 3) := by decide +kernel
theorem dX10_fault_5 : decode cX10_fault 5 = .ok (.ifCond .eq 7, 3) := by decide +kernel
theorem dX10_fault_8 : decode cX10_fault 8 = .ok (.iconst (-1), 1) := by decide +kernel
theorem dX10_fault_9 : decode cX10_fault 9 = .ok (.goto 7, 3) := by decide +kernel
theorem dX10_fault_12 : decode cX10_fault 12 = .ok (.aload_n 0, 1) := by decide +kernel
theorem dX10_fault_13 : decode cX10_fault 13 = .ok (.getfield 86, 3) := by decide +kernel
theorem dX10_fault_16 : decode cX10_fault 16 = .ok (.ireturn, 1) := by decide +kernel
set_option maxRecDepth 20000 in
theorem ggX10_net_X10_reads : GoodIn wsX10_net wsX10_reads := goodIn_r _ [13, 14, 15, 8, 16, 17, 18, 4, 19, 20, 21, 22, 12, 23, 24, 25, 26, 27, 28, 29, 30, 31, 32, 33, 34, 35, 36, 37, 38, 39, 40, 41, 42, 43, 44, 45, 46, 47, 48, 49, 50, 51, 52, 53, 54, 55, 56, 57, 58, 59, 60, 61, 62, 63, 64, 65, 66, 67, 68, 69, 70, 71, 72, 73, 74, 75, 76, 77, 78, 79, 80, 81, 82, 83, 84, 85, 86, 87, 88, 89, 90, 91, 92, 93, 94, 95, 96] (by decide +kernel) (by decide +kernel)
set_option maxRecDepth 20000 in
theorem gX10_net_X10_reads : GoodIn wsX10_net (wsV RX10 135 RX10 yX10_reads wsX10_reads) := goodIn_app (goodIn_of _ (by decide +kernel)) ggX10_net_X10_reads
theorem dX10_net_0 : decode cX10_net 0 = .ok (.aload_n 0, 1) := by decide +kernel
theorem dX10_net_1 : decode cX10_net 1 = .ok (.iconst 0, 1) := by decide +kernel
theorem dX10_net_2 : decode cX10_net 2 = .ok (.invokevirtual 135, 3) := by decide +kernel
theorem dX10_net_5 : decode cX10_net 5 = .ok (.ifCond .ne 6, 3) := by decide +kernel
theorem dX10_net_8 : decode cX10_net 8 = .ok (.ldc 74, 2) := by decide +kernel
theorem dX10_net_10 : decode cX10_net 10 = .ok (.ireturn, 1) := by decide +kernel
theorem dX10_net_11 : decode cX10_net 11 = .ok (.aload_n 0, 1) := by decide +kernel
theorem dX10_net_12 : decode cX10_net 12 = .ok (.iconst 1, 1) := by decide +kernel
theorem dX10_net_13 : decode cX10_net 13 = .ok (.invokevirtual 135, 3) := by decide +kernel
theorem dX10_net_16 : decode cX10_net 16 = .ok (.pop, 1) := by decide +kernel
theorem dX10_net_17 : decode cX10_net 17 = .ok (.iconst 0, 1) := by decide +kernel
theorem dX10_net_18 : decode cX10_net 18 = .ok (.istore_n 1, 1) := by decide +kernel
theorem dX10_net_19 : decode cX10_net 19 = .ok (.iload_n 1, 1) := by decide +kernel
theorem dX10_net_20 : decode cX10_net 20 = .ok (.bipush 6, 2) := by decide +kernel
theorem dX10_net_22 : decode cX10_net 22 = .ok (.if_icmp .ge 23, 3) := by decide +kernel
theorem dX10_net_25 : decode cX10_net 25 = .ok (.aload_n 0, 1) := by decide +kernel
theorem dX10_net_26 : decode cX10_net 26 = .ok (.getfield 7, 3) := by decide +kernel
theorem dX10_net_29 : decode cX10_net 29 = .ok (.iload_n 1, 1) := by decide +kernel
theorem dX10_net_30 : decode cX10_net 30 = .ok (.lconst 0, 1) := by decide +kernel
theorem dX10_net_31 : decode cX10_net 31 = .ok (.lastore, 1) := by decide +kernel
theorem dX10_net_32 : decode cX10_net 32 = .ok (.aload_n 0, 1) := by decide +kernel
theorem dX10_net_33 : decode cX10_net 33 = .ok (.getfield 13, 3) := by decide +kernel
theorem dX10_net_36 : decode cX10_net 36 = .ok (.iload_n 1, 1) := by decide +kernel
theorem dX10_net_37 : decode cX10_net 37 = .ok (.lconst 1, 1) := by decide +kernel
theorem dX10_net_38 : decode cX10_net 38 = .ok (.lastore, 1) := by decide +kernel
theorem dX10_net_39 : decode cX10_net 39 = .ok (.iinc 1 1, 3) := by decide +kernel
theorem dX10_net_42 : decode cX10_net 42 = .ok (.goto (-23), 3) := by decide +kernel
theorem dX10_net_45 : decode cX10_net 45 = .ok (.aload_n 0, 1) := by decide +kernel
theorem dX10_net_46 : decode cX10_net 46 = .ok (.iconst 0, 1) := by decide +kernel
theorem dX10_net_47 : decode cX10_net 47 = .ok (.putfield 71, 3) := by decide +kernel
theorem dX10_net_50 : decode cX10_net 50 = .ok (.aload_n 0, 1) := by decide +kernel
theorem dX10_net_51 : decode cX10_net 51 = .ok (.iconst 0, 1) := by decide +kernel
theorem dX10_net_52 : decode cX10_net 52 = .ok (.putfield 139, 3) := by decide +kernel
theorem dX10_net_55 : decode cX10_net 55 = .ok (.aload_n 0, 1) := by decide +kernel
theorem dX10_net_56 : decode cX10_net 56 = .ok (.getfield 33, 3) := by decide +kernel
theorem dX10_net_59 : decode cX10_net 59 = .ok (.iconst 0, 1) := by decide +kernel
theorem dX10_net_60 : decode cX10_net 60 = .ok (.iconst 0, 1) := by decide +kernel
theorem dX10_net_61 : decode cX10_net 61 = .ok (.bastore, 1) := by decide +kernel
theorem dX10_net_62 : decode cX10_net 62 = .ok (.aload_n 0, 1) := by decide +kernel
theorem dX10_net_63 : decode cX10_net 63 = .ok (.getfield 33, 3) := by decide +kernel
theorem dX10_net_66 : decode cX10_net 66 = .ok (.iconst 1, 1) := by decide +kernel
theorem dX10_net_67 : decode cX10_net 67 = .ok (.iconst 0, 1) := by decide +kernel
theorem dX10_net_68 : decode cX10_net 68 = .ok (.bastore, 1) := by decide +kernel
theorem dX10_net_69 : decode cX10_net 69 = .ok (.iconst 0, 1) := by decide +kernel
theorem dX10_net_70 : decode cX10_net 70 = .ok (.istore_n 1, 1) := by decide +kernel
theorem dX10_net_71 : decode cX10_net 71 = .ok (.iload_n 1, 1) := by decide +kernel
theorem dX10_net_72 : decode cX10_net 72 = .ok (.iconst 3, 1) := by decide +kernel
theorem dX10_net_73 : decode cX10_net 73 = .ok (.if_icmp .ge 16, 3) := by decide +kernel
theorem dX10_net_76 : decode cX10_net 76 = .ok (.aload_n 0, 1) := by decide +kernel
theorem dX10_net_77 : decode cX10_net 77 = .ok (.getfield 40, 3) := by decide +kernel
theorem dX10_net_80 : decode cX10_net 80 = .ok (.iload_n 1, 1) := by decide +kernel
theorem dX10_net_81 : decode cX10_net 81 = .ok (.iconst (-1), 1) := by decide +kernel
theorem dX10_net_82 : decode cX10_net 82 = .ok (.iastore, 1) := by decide +kernel
theorem dX10_net_83 : decode cX10_net 83 = .ok (.iinc 1 1, 3) := by decide +kernel
theorem dX10_net_86 : decode cX10_net 86 = .ok (.goto (-15), 3) := by decide +kernel
theorem dX10_net_89 : decode cX10_net 89 = .ok (.aload_n 0, 1) := by decide +kernel
theorem dX10_net_90 : decode cX10_net 90 = .ok (.getfield 128, 3) := by decide +kernel
theorem dX10_net_93 : decode cX10_net 93 = .ok (.ireturn, 1) := by decide +kernel
set_option maxRecDepth 20000 in
theorem ggX10_isBus_X10_in : GoodIn wsX10_isBus wsX10_in := goodIn_r _ [5] (by decide +kernel) (by decide +kernel)
set_option maxRecDepth 20000 in
theorem gX10_isBus_X10_in : GoodIn wsX10_isBus (va_wsS RX10 66 yX10_in wsX10_in) := goodIn_app (goodIn_of _ (by decide +kernel)) ggX10_isBus_X10_in
theorem dX10_isBus_0 : decode cX10_isBus 0 = .ok (.iload_n 1, 1) := by decide +kernel
theorem dX10_isBus_1 : decode cX10_isBus 1 = .ok (.i2l, 1) := by decide +kernel
theorem dX10_isBus_2 : decode cX10_isBus 2 = .ok (.lconst 0, 1) := by decide +kernel
theorem dX10_isBus_3 : decode cX10_isBus 3 = .ok (.aload_n 0, 1) := by decide +kernel
theorem dX10_isBus_4 : decode cX10_isBus 4 = .ok (.getfield 20, 3) := by decide +kernel
theorem dX10_isBus_7 : decode cX10_isBus 7 = .ok (.iconst 1, 1) := by decide +kernel
theorem dX10_isBus_8 : decode cX10_isBus 8 = .ok (.isub, 1) := by decide +kernel
theorem dX10_isBus_9 : decode cX10_isBus 9 = .ok (.i2l, 1) := by decide +kernel
theorem dX10_isBus_10 : decode cX10_isBus 10 = .ok (.invokestatic 66, 3) := by decide +kernel
theorem dX10_isBus_13 : decode cX10_isBus 13 = .ok (.ireturn, 1) := by decide +kernel
theorem dX10_upTo_0 : decode cX10_upTo 0 = .ok (.aload_n 0, 1) := by decide +kernel
theorem dX10_upTo_1 : decode cX10_upTo 1 = .ok (.getfield 27, 3) := by decide +kernel
theorem dX10_upTo_4 : decode cX10_upTo 4 = .ok (.iload_n 2, 1) := by decide +kernel
theorem dX10_upTo_5 : decode cX10_upTo 5 = .ok (.iaload, 1) := by decide +kernel
theorem dX10_upTo_6 : decode cX10_upTo 6 = .ok (.istore_n 3, 1) := by decide +kernel
theorem dX10_upTo_7 : decode cX10_upTo 7 = .ok (.iload_n 1, 1) := by decide +kernel
theorem dX10_upTo_8 : decode cX10_upTo 8 = .ok (.istore 4, 2) := by decide +kernel
theorem dX10_upTo_10 : decode cX10_upTo 10 = .ok (.iload 4, 2) := by decide +kernel
theorem dX10_upTo_12 : decode cX10_upTo 12 = .ok (.ifCond .le 29, 3) := by decide +kernel
theorem dX10_upTo_15 : decode cX10_upTo 15 = .ok (.iload_n 3, 1) := by decide +kernel
theorem dX10_upTo_16 : decode cX10_upTo 16 = .ok (.aload_n 0, 1) := by decide +kernel
theorem dX10_upTo_17 : decode cX10_upTo 17 = .ok (.getfield 27, 3) := by decide +kernel
theorem dX10_upTo_20 : decode cX10_upTo 20 = .ok (.iconst 3, 1) := by decide +kernel
theorem dX10_upTo_21 : decode cX10_upTo 21 = .ok (.iload 4, 2) := by decide +kernel
theorem dX10_upTo_23 : decode cX10_upTo 23 = .ok (.imul, 1) := by decide +kernel
theorem dX10_upTo_24 : decode cX10_upTo 24 = .ok (.iload_n 2, 1) := by decide +kernel
theorem dX10_upTo_25 : decode cX10_upTo 25 = .ok (.iadd, 1) := by decide +kernel
theorem dX10_upTo_26 : decode cX10_upTo 26 = .ok (.iaload, 1) := by decide +kernel
theorem dX10_upTo_27 : decode cX10_upTo 27 = .ok (.iadd, 1) := by decide +kernel
theorem dX10_upTo_28 : decode cX10_upTo 28 = .ok (.istore_n 3, 1) := by decide +kernel
theorem dX10_upTo_29 : decode cX10_upTo 29 = .ok (.aload_n 0, 1) := by decide +kernel
theorem dX10_upTo_30 : decode cX10_upTo 30 = .ok (.getfield 23, 3) := by decide +kernel
theorem dX10_upTo_33 : decode cX10_upTo 33 = .ok (.iload 4, 2) := by decide +kernel
theorem dX10_upTo_35 : decode cX10_upTo 35 = .ok (.iaload, 1) := by decide +kernel
theorem dX10_upTo_36 : decode cX10_upTo 36 = .ok (.istore 4, 2) := by decide +kernel
theorem dX10_upTo_38 : decode cX10_upTo 38 = .ok (.goto (-28), 3) := by decide +kernel
theorem dX10_upTo_41 : decode cX10_upTo 41 = .ok (.iload_n 3, 1) := by decide +kernel
theorem dX10_upTo_42 : decode cX10_upTo 42 = .ok (.ireturn, 1) := by decide +kernel
theorem dX10_linesTo_0 : decode cX10_linesTo 0 = .ok (.iconst 0, 1) := by decide +kernel
theorem dX10_linesTo_1 : decode cX10_linesTo 1 = .ok (.istore_n 2, 1) := by decide +kernel
theorem dX10_linesTo_2 : decode cX10_linesTo 2 = .ok (.iload_n 1, 1) := by decide +kernel
theorem dX10_linesTo_3 : decode cX10_linesTo 3 = .ok (.istore_n 3, 1) := by decide +kernel
theorem dX10_linesTo_4 : decode cX10_linesTo 4 = .ok (.iload_n 3, 1) := by decide +kernel
theorem dX10_linesTo_5 : decode cX10_linesTo 5 = .ok (.ifCond .le 16, 3) := by decide +kernel
theorem dX10_linesTo_8 : decode cX10_linesTo 8 = .ok (.iinc 2 1, 3) := by decide +kernel
theorem dX10_linesTo_11 : decode cX10_linesTo 11 = .ok (.aload_n 0, 1) := by decide +kernel
theorem dX10_linesTo_12 : decode cX10_linesTo 12 = .ok (.getfield 23, 3) := by decide +kernel
theorem dX10_linesTo_15 : decode cX10_linesTo 15 = .ok (.iload_n 3, 1) := by decide +kernel
theorem dX10_linesTo_16 : decode cX10_linesTo 16 = .ok (.iaload, 1) := by decide +kernel
theorem dX10_linesTo_17 : decode cX10_linesTo 17 = .ok (.istore_n 3, 1) := by decide +kernel
theorem dX10_linesTo_18 : decode cX10_linesTo 18 = .ok (.goto (-14), 3) := by decide +kernel
theorem dX10_linesTo_21 : decode cX10_linesTo 21 = .ok (.iload_n 2, 1) := by decide +kernel
theorem dX10_linesTo_22 : decode cX10_linesTo 22 = .ok (.ireturn, 1) := by decide +kernel
set_option maxRecDepth 20000 in
theorem ggX10_bus_X10_isBus : GoodIn wsX10_bus wsX10_isBus := goodIn_r _ [10, 11, 12, 13, 9, 14, 23, 24, 25, 26, 27, 28, 29, 30, 31, 32, 33, 34, 35, 36, 37, 38, 39, 40, 41, 42, 43, 44, 45, 46, 47, 48] (by decide +kernel) (by decide +kernel)
set_option maxRecDepth 20000 in
theorem gX10_bus_X10_isBus : GoodIn wsX10_bus (wsV RX10 142 RX10 yX10_isBus wsX10_isBus) := goodIn_app (goodIn_of _ (by decide +kernel)) ggX10_bus_X10_isBus
set_option maxRecDepth 20000 in
theorem ggX10_bus_X10_upTo : GoodIn wsX10_bus wsX10_upTo := goodIn_r _ [18, 3, 2, 23, 24, 25, 26, 27, 28, 29, 30, 31, 32, 33, 34, 35, 36, 37, 38, 39, 40, 41, 42, 43, 44, 45, 46, 47, 48] (by decide +kernel) (by decide +kernel)
set_option maxRecDepth 20000 in
theorem gX10_bus_X10_upTo : GoodIn wsX10_bus (wsV RX10 146 RX10 yX10_upTo wsX10_upTo) := goodIn_app (goodIn_of _ (by decide +kernel)) ggX10_bus_X10_upTo
set_option maxRecDepth 20000 in
theorem ggX10_bus_X10_linesTo : GoodIn wsX10_bus wsX10_linesTo := goodIn_r _ [22, 2, 23, 24, 25, 26, 27, 28, 29, 30, 31, 32, 33, 34, 35, 36, 37, 38, 39, 40, 41, 42, 43, 44, 45, 46, 47, 48] (by decide +kernel) (by decide +kernel)
set_option maxRecDepth 20000 in
theorem gX10_bus_X10_linesTo : GoodIn wsX10_bus (wsV RX10 150 RX10 yX10_linesTo wsX10_linesTo) := goodIn_app (goodIn_of _ (by decide +kernel)) ggX10_bus_X10_linesTo
theorem dX10_bus_0 : decode cX10_bus 0 = .ok (.aload_n 0, 1) := by decide +kernel
theorem dX10_bus_1 : decode cX10_bus 1 = .ok (.iload_n 1, 1) := by decide +kernel
theorem dX10_bus_2 : decode cX10_bus 2 = .ok (.invokevirtual 142, 3) := by decide +kernel
theorem dX10_bus_5 : decode cX10_bus 5 = .ok (.ifCond .ne 6, 3) := by decide +kernel
theorem dX10_bus_8 : decode cX10_bus 8 = .ok (.ldc 145, 2) := by decide +kernel
theorem dX10_bus_10 : decode cX10_bus 10 = .ok (.ireturn, 1) := by decide +kernel
theorem dX10_bus_11 : decode cX10_bus 11 = .ok (.iload_n 2, 1) := by decide +kernel
theorem dX10_bus_12 : decode cX10_bus 12 = .ok (.tableswitch 110 0 8 #[52, 67, 67, 67, 80, 95, 95, 95, 104], 52) := by decide +kernel
theorem dX10_bus_64 : decode cX10_bus 64 = .ok (.iload_n 1, 1) := by decide +kernel
theorem dX10_bus_65 : decode cX10_bus 65 = .ok (.ifCond .ne 7, 3) := by decide +kernel
theorem dX10_bus_68 : decode cX10_bus 68 = .ok (.iconst (-1), 1) := by decide +kernel
theorem dX10_bus_69 : decode cX10_bus 69 = .ok (.goto 9, 3) := by decide +kernel
theorem dX10_bus_72 : decode cX10_bus 72 = .ok (.aload_n 0, 1) := by decide +kernel
theorem dX10_bus_73 : decode cX10_bus 73 = .ok (.getfield 23, 3) := by decide +kernel
theorem dX10_bus_76 : decode cX10_bus 76 = .ok (.iload_n 1, 1) := by decide +kernel
theorem dX10_bus_77 : decode cX10_bus 77 = .ok (.iaload, 1) := by decide +kernel
theorem dX10_bus_78 : decode cX10_bus 78 = .ok (.ireturn, 1) := by decide +kernel
theorem dX10_bus_79 : decode cX10_bus 79 = .ok (.aload_n 0, 1) := by decide +kernel
theorem dX10_bus_80 : decode cX10_bus 80 = .ok (.getfield 27, 3) := by decide +kernel
theorem dX10_bus_83 : decode cX10_bus 83 = .ok (.iconst 3, 1) := by decide +kernel
theorem dX10_bus_84 : decode cX10_bus 84 = .ok (.iload_n 1, 1) := by decide +kernel
theorem dX10_bus_85 : decode cX10_bus 85 = .ok (.imul, 1) := by decide +kernel
theorem dX10_bus_86 : decode cX10_bus 86 = .ok (.iload_n 2, 1) := by decide +kernel
theorem dX10_bus_87 : decode cX10_bus 87 = .ok (.iadd, 1) := by decide +kernel
theorem dX10_bus_88 : decode cX10_bus 88 = .ok (.iconst 1, 1) := by decide +kernel
theorem dX10_bus_89 : decode cX10_bus 89 = .ok (.isub, 1) := by decide +kernel
theorem dX10_bus_90 : decode cX10_bus 90 = .ok (.iaload, 1) := by decide +kernel
theorem dX10_bus_91 : decode cX10_bus 91 = .ok (.ireturn, 1) := by decide +kernel
theorem dX10_bus_92 : decode cX10_bus 92 = .ok (.iload_n 1, 1) := by decide +kernel
theorem dX10_bus_93 : decode cX10_bus 93 = .ok (.ifCond .ne 7, 3) := by decide +kernel
theorem dX10_bus_96 : decode cX10_bus 96 = .ok (.iconst 0, 1) := by decide +kernel
theorem dX10_bus_97 : decode cX10_bus 97 = .ok (.goto 9, 3) := by decide +kernel
theorem dX10_bus_100 : decode cX10_bus 100 = .ok (.aload_n 0, 1) := by decide +kernel
theorem dX10_bus_101 : decode cX10_bus 101 = .ok (.getfield 30, 3) := by decide +kernel
theorem dX10_bus_104 : decode cX10_bus 104 = .ok (.iload_n 1, 1) := by decide +kernel
theorem dX10_bus_105 : decode cX10_bus 105 = .ok (.iaload, 1) := by decide +kernel
theorem dX10_bus_106 : decode cX10_bus 106 = .ok (.ireturn, 1) := by decide +kernel
theorem dX10_bus_107 : decode cX10_bus 107 = .ok (.aload_n 0, 1) := by decide +kernel
theorem dX10_bus_108 : decode cX10_bus 108 = .ok (.iload_n 1, 1) := by decide +kernel
theorem dX10_bus_109 : decode cX10_bus 109 = .ok (.iload_n 2, 1) := by decide +kernel
theorem dX10_bus_110 : decode cX10_bus 110 = .ok (.iconst 5, 1) := by decide +kernel
theorem dX10_bus_111 : decode cX10_bus 111 = .ok (.isub, 1) := by decide +kernel
theorem dX10_bus_112 : decode cX10_bus 112 = .ok (.invokevirtual 146, 3) := by decide +kernel
theorem dX10_bus_115 : decode cX10_bus 115 = .ok (.ireturn, 1) := by decide +kernel
theorem dX10_bus_116 : decode cX10_bus 116 = .ok (.aload_n 0, 1) := by decide +kernel
theorem dX10_bus_117 : decode cX10_bus 117 = .ok (.iload_n 1, 1) := by decide +kernel
theorem dX10_bus_118 : decode cX10_bus 118 = .ok (.invokevirtual 150, 3) := by decide +kernel
theorem dX10_bus_121 : decode cX10_bus 121 = .ok (.ireturn, 1) := by decide +kernel
theorem dX10_bus_122 : decode cX10_bus 122 = .ok (.ldc 70, 2) := by decide +kernel
theorem dX10_bus_124 : decode cX10_bus 124 = .ok (.ireturn, 1) := by decide +kernel
theorem dX10_divisor_0 : decode cX10_divisor 0 = .ok (.lload_n 0, 1) := by decide +kernel
theorem dX10_divisor_1 : decode cX10_divisor 1 = .ok (.lconst 0, 1) := by decide +kernel
theorem dX10_divisor_2 : decode cX10_divisor 2 = .ok (.lcmp, 1) := by decide +kernel
theorem dX10_divisor_3 : decode cX10_divisor 3 = .ok (.ifCond .ge 8, 3) := by decide +kernel
theorem dX10_divisor_6 : decode cX10_divisor 6 = .ok (.lload_n 0, 1) := by decide +kernel
theorem dX10_divisor_7 : decode cX10_divisor 7 = .ok (.lneg, 1) := by decide +kernel
theorem dX10_divisor_8 : decode cX10_divisor 8 = .ok (.goto 4, 3) := by decide +kernel
theorem dX10_divisor_11 : decode cX10_divisor 11 = .ok (.lload_n 0, 1) := by decide +kernel
theorem dX10_divisor_12 : decode cX10_divisor 12 = .ok (.lstore 4, 2) := by decide +kernel
theorem dX10_divisor_14 : decode cX10_divisor 14 = .ok (.lload_n 2, 1) := by decide +kernel
theorem dX10_divisor_15 : decode cX10_divisor 15 = .ok (.lstore 6, 2) := by decide +kernel
theorem dX10_divisor_17 : decode cX10_divisor 17 = .ok (.lload 6, 2) := by decide +kernel
theorem dX10_divisor_19 : decode cX10_divisor 19 = .ok (.lconst 0, 1) := by decide +kernel
theorem dX10_divisor_20 : decode cX10_divisor 20 = .ok (.lcmp, 1) := by decide +kernel
theorem dX10_divisor_21 : decode cX10_divisor 21 = .ok (.ifCond .eq 21, 3) := by decide +kernel
theorem dX10_divisor_24 : decode cX10_divisor 24 = .ok (.lload 4, 2) := by decide +kernel
theorem dX10_divisor_26 : decode cX10_divisor 26 = .ok (.lload 6, 2) := by decide +kernel
theorem dX10_divisor_28 : decode cX10_divisor 28 = .ok (.lrem, 1) := by decide +kernel
theorem dX10_divisor_29 : decode cX10_divisor 29 = .ok (.lstore 8, 2) := by decide +kernel
theorem dX10_divisor_31 : decode cX10_divisor 31 = .ok (.lload 6, 2) := by decide +kernel
theorem dX10_divisor_33 : decode cX10_divisor 33 = .ok (.lstore 4, 2) := by decide +kernel
theorem dX10_divisor_35 : decode cX10_divisor 35 = .ok (.lload 8, 2) := by decide +kernel
theorem dX10_divisor_37 : decode cX10_divisor 37 = .ok (.lstore 6, 2) := by decide +kernel
theorem dX10_divisor_39 : decode cX10_divisor 39 = .ok (.goto (-22), 3) := by decide +kernel
theorem dX10_divisor_42 : decode cX10_divisor 42 = .ok (.lload 4, 2) := by decide +kernel
theorem dX10_divisor_44 : decode cX10_divisor 44 = .ok (.lreturn, 1) := by decide +kernel
set_option maxRecDepth 20000 in
theorem ggX10_lay_X10_divisor : GoodIn wsX10_lay wsX10_divisor := goodIn_r _ [6] (by decide +kernel) (by decide +kernel)
set_option maxRecDepth 20000 in
theorem gX10_lay_X10_divisor : GoodIn wsX10_lay (va_wsS RX10 154 yX10_divisor wsX10_divisor) := goodIn_app (goodIn_of _ (by decide +kernel)) ggX10_lay_X10_divisor
theorem dX10_lay_0 : decode cX10_lay 0 = .ok (.lload_n 2, 1) := by decide +kernel
theorem dX10_lay_1 : decode cX10_lay 1 = .ok (.lload 4, 2) := by decide +kernel
theorem dX10_lay_3 : decode cX10_lay 3 = .ok (.invokestatic 154, 3) := by decide +kernel
theorem dX10_lay_6 : decode cX10_lay 6 = .ok (.lstore 6, 2) := by decide +kernel
theorem dX10_lay_8 : decode cX10_lay 8 = .ok (.aload_n 0, 1) := by decide +kernel
theorem dX10_lay_9 : decode cX10_lay 9 = .ok (.getfield 7, 3) := by decide +kernel
theorem dX10_lay_12 : decode cX10_lay 12 = .ok (.iload_n 1, 1) := by decide +kernel
theorem dX10_lay_13 : decode cX10_lay 13 = .ok (.lload_n 2, 1) := by decide +kernel
theorem dX10_lay_14 : decode cX10_lay 14 = .ok (.lload 6, 2) := by decide +kernel
theorem dX10_lay_16 : decode cX10_lay 16 = .ok (.ldiv, 1) := by decide +kernel
theorem dX10_lay_17 : decode cX10_lay 17 = .ok (.lastore, 1) := by decide +kernel
theorem dX10_lay_18 : decode cX10_lay 18 = .ok (.aload_n 0, 1) := by decide +kernel
theorem dX10_lay_19 : decode cX10_lay 19 = .ok (.getfield 13, 3) := by decide +kernel
theorem dX10_lay_22 : decode cX10_lay 22 = .ok (.iload_n 1, 1) := by decide +kernel
theorem dX10_lay_23 : decode cX10_lay 23 = .ok (.lload 4, 2) := by decide +kernel
theorem dX10_lay_25 : decode cX10_lay 25 = .ok (.lload 6, 2) := by decide +kernel
theorem dX10_lay_27 : decode cX10_lay 27 = .ok (.ldiv, 1) := by decide +kernel
theorem dX10_lay_28 : decode cX10_lay 28 = .ok (.lastore, 1) := by decide +kernel
theorem dX10_lay_29 : decode cX10_lay 29 = .ok (.return_, 1) := by decide +kernel
set_option maxRecDepth 20000 in
theorem ggX10_made_X10_lay : GoodIn wsX10_made wsX10_lay := goodIn_r _ [10, 2, 5, 11, 12, 9, 13, 17, 18, 19, 20, 21, 22, 23, 24, 25, 26, 27, 28, 29, 30, 31, 32, 33, 34, 35, 36, 37, 38, 39, 40, 41, 42] (by decide +kernel) (by decide +kernel)
set_option maxRecDepth 20000 in
theorem gX10_made_X10_lay : GoodIn wsX10_made (wsV RX10 158 RX10 yX10_lay wsX10_lay) := goodIn_app (goodIn_of _ (by decide +kernel)) ggX10_made_X10_lay
set_option maxRecDepth 20000 in
theorem ggX10_made_X10_in : GoodIn wsX10_made wsX10_in := goodIn_r _ [16] (by decide +kernel) (by decide +kernel)
set_option maxRecDepth 20000 in
theorem gX10_made_X10_in : GoodIn wsX10_made (va_wsS RX10 66 yX10_in wsX10_in) := goodIn_app (goodIn_of _ (by decide +kernel)) ggX10_made_X10_in
theorem dX10_made_0 : decode cX10_made 0 = .ok (.aload_n 0, 1) := by decide +kernel
theorem dX10_made_1 : decode cX10_made 1 = .ok (.iload_n 1, 1) := by decide +kernel
theorem dX10_made_2 : decode cX10_made 2 = .ok (.lload_n 2, 1) := by decide +kernel
theorem dX10_made_3 : decode cX10_made 3 = .ok (.lload 4, 2) := by decide +kernel
theorem dX10_made_5 : decode cX10_made 5 = .ok (.invokevirtual 158, 3) := by decide +kernel
theorem dX10_made_8 : decode cX10_made 8 = .ok (.aload_n 0, 1) := by decide +kernel
theorem dX10_made_9 : decode cX10_made 9 = .ok (.aload_n 0, 1) := by decide +kernel
theorem dX10_made_10 : decode cX10_made 10 = .ok (.getfield 162, 3) := by decide +kernel
theorem dX10_made_13 : decode cX10_made 13 = .ok (.ifCond .ne 34, 3) := by decide +kernel
theorem dX10_made_16 : decode cX10_made 16 = .ok (.aload_n 0, 1) := by decide +kernel
theorem dX10_made_17 : decode cX10_made 17 = .ok (.getfield 7, 3) := by decide +kernel
theorem dX10_made_20 : decode cX10_made 20 = .ok (.iload_n 1, 1) := by decide +kernel
theorem dX10_made_21 : decode cX10_made 21 = .ok (.laload, 1) := by decide +kernel
theorem dX10_made_22 : decode cX10_made 22 = .ok (.ldc2_w 165, 3) := by decide +kernel
theorem dX10_made_25 : decode cX10_made 25 = .ok (.ldc2_w 167, 3) := by decide +kernel
theorem dX10_made_28 : decode cX10_made 28 = .ok (.invokestatic 66, 3) := by decide +kernel
theorem dX10_made_31 : decode cX10_made 31 = .ok (.ifCond .eq 16, 3) := by decide +kernel
theorem dX10_made_34 : decode cX10_made 34 = .ok (.aload_n 0, 1) := by decide +kernel
theorem dX10_made_35 : decode cX10_made 35 = .ok (.getfield 13, 3) := by decide +kernel
theorem dX10_made_38 : decode cX10_made 38 = .ok (.iload_n 1, 1) := by decide +kernel
theorem dX10_made_39 : decode cX10_made 39 = .ok (.laload, 1) := by decide +kernel
theorem dX10_made_40 : decode cX10_made 40 = .ok (.ldc2_w 167, 3) := by decide +kernel
theorem dX10_made_43 : decode cX10_made 43 = .ok (.lcmp, 1) := by decide +kernel
theorem dX10_made_44 : decode cX10_made 44 = .ok (.ifCond .le 7, 3) := by decide +kernel
theorem dX10_made_47 : decode cX10_made 47 = .ok (.iconst 1, 1) := by decide +kernel
theorem dX10_made_48 : decode cX10_made 48 = .ok (.goto 4, 3) := by decide +kernel
theorem dX10_made_51 : decode cX10_made 51 = .ok (.iconst 0, 1) := by decide +kernel
theorem dX10_made_52 : decode cX10_made 52 = .ok (.putfield 162, 3) := by decide +kernel
theorem dX10_made_55 : decode cX10_made 55 = .ok (.return_, 1) := by decide +kernel
set_option maxRecDepth 20000 in
theorem ggX10_plus_X10_made : GoodIn wsX10_plus wsX10_made := goodIn_r _ [8, 1, 2, 9, 10, 3, 11, 12, 13, 7, 14, 15, 16, 17, 18, 19, 20, 21, 22, 23, 24, 25, 26, 27, 28, 29, 30, 31, 32, 33, 34, 35, 36, 37, 38, 39, 40, 41, 42, 43, 44, 45, 46] (by decide +kernel) (by decide +kernel)
set_option maxRecDepth 20000 in
theorem gX10_plus_X10_made : GoodIn wsX10_plus (wsV RX10 169 RX10 yX10_made wsX10_made) := goodIn_app (goodIn_of _ (by decide +kernel)) ggX10_plus_X10_made
theorem dX10_plus_0 : decode cX10_plus 0 = .ok (.aload_n 0, 1) := by decide +kernel
theorem dX10_plus_1 : decode cX10_plus 1 = .ok (.getfield 162, 3) := by decide +kernel
theorem dX10_plus_4 : decode cX10_plus 4 = .ok (.ifCond .ne 51, 3) := by decide +kernel
theorem dX10_plus_7 : decode cX10_plus 7 = .ok (.aload_n 0, 1) := by decide +kernel
