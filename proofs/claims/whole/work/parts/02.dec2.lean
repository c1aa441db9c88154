theorem dX9_erase_7 : decode cX9_erase 7 = .ok (.istore_n 1, 1) := by decide +kernel
theorem dX9_erase_8 : decode cX9_erase 8 = .ok (.aload_n 0, 1) := by decide +kernel
theorem dX9_erase_9 : decode cX9_erase 9 = .ok (.getfield 10, 3) := by decide +kernel
theorem dX9_erase_12 : decode cX9_erase 12 = .ok (.iconst 0, 1) := by decide +kernel
theorem dX9_erase_13 : decode cX9_erase 13 = .ok (.putfield 84, 3) := by decide +kernel
theorem dX9_erase_16 : decode cX9_erase 16 = .ok (.iload_n 1, 1) := by decide +kernel
theorem dX9_erase_17 : decode cX9_erase 17 = .ok (.ireturn, 1) := by decide +kernel
set_option maxRecDepth 20000 in
theorem ggX9_fault_X2_become : GoodIn wsX9_fault wsX2_become := goodIn_r _ [8, 9, 10, 11, 12, 13, 14, 15, 16, 17, 139, 140, 141, 142, 143] (by decide +kernel) (by decide +kernel)
set_option maxRecDepth 20000 in
theorem gX9_fault_X2_become : GoodIn wsX9_fault (wsV RX9 89 RX2 yX2_become wsX2_become) := goodIn_app (goodIn_of _ (by decide +kernel)) ggX9_fault_X2_become
set_option maxRecDepth 20000 in
theorem ggX9_fault_X7_readInto : GoodIn wsX9_fault wsX7_readInto := goodIn_r _ [22, 23, 24, 25, 26, 27, 28, 29, 21, 30, 31, 32, 33, 34, 35, 36, 37, 38, 39, 40, 41, 42, 43, 44, 45, 46, 47, 48, 49, 50, 51, 52, 53, 54, 55, 56, 57, 58, 59, 60, 61, 62, 63, 64, 65, 66, 67, 68, 69, 70, 71, 72, 73, 74, 75, 76, 77, 78, 79, 80, 81, 82, 83, 84, 85, 86, 87, 88, 89, 90, 91, 92, 93, 94, 95, 96, 97, 98, 99, 100, 101, 102, 7, 103, 9, 10, 104, 105, 106, 107, 11, 17, 108, 109, 110, 111, 112, 113, 114, 115, 16, 116, 117, 118, 119, 120, 121, 122, 123, 124, 125, 126, 144, 145, 146, 147, 148, 149, 150, 139, 140, 141, 142, 143] (by decide +kernel) (by decide +kernel)
set_option maxRecDepth 20000 in
theorem gX9_fault_X7_readInto : GoodIn wsX9_fault (wsV RX9 93 RX7 yX7_readInto wsX7_readInto) := goodIn_app (goodIn_of _ (by decide +kernel)) ggX9_fault_X7_readInto
theorem dX9_fault_0 : decode cX9_fault 0 = .ok (.aload_n 0, 1) := by decide +kernel
theorem dX9_fault_1 : decode cX9_fault 1 = .ok (.getfield 23, 3) := by decide +kernel
theorem dX9_fault_4 : decode cX9_fault 4 = .ok (.aload_n 0, 1) := by decide +kernel
theorem dX9_fault_5 : decode cX9_fault 5 = .ok (.getfield 19, 3) := by decide +kernel
theorem dX9_fault_8 : decode cX9_fault 8 = .ok (.invokevirtual 89, 3) := by decide +kernel
theorem dX9_fault_11 : decode cX9_fault 11 = .ok (.aload_n 0, 1) := by decide +kernel
theorem dX9_fault_12 : decode cX9_fault 12 = .ok (.getfield 10, 3) := by decide +kernel
theorem dX9_fault_15 : decode cX9_fault 15 = .ok (.aload_n 0, 1) := by decide +kernel
theorem dX9_fault_16 : decode cX9_fault 16 = .ok (.getfield 23, 3) := by decide +kernel
theorem dX9_fault_19 : decode cX9_fault 19 = .ok (.invokevirtual 93, 3) := by decide +kernel
theorem dX9_fault_22 : decode cX9_fault 22 = .ok (.ireturn, 1) := by decide +kernel
set_option maxRecDepth 20000 in
theorem ggX9_net_X2_become : GoodIn wsX9_net wsX2_become := goodIn_r _ [11, 12, 13, 14, 15, 16, 17, 18, 19, 20, 196, 197, 198, 199, 200] (by decide +kernel) (by decide +kernel)
set_option maxRecDepth 20000 in
theorem gX9_net_X2_become : GoodIn wsX9_net (wsV RX9 89 RX2 yX2_become wsX2_become) := goodIn_app (goodIn_of _ (by decide +kernel)) ggX9_net_X2_become
set_option maxRecDepth 20000 in
theorem ggX9_net_X7_readInto : GoodIn wsX9_net wsX7_readInto := goodIn_r _ [25, 26, 27, 28, 29, 30, 31, 32, 24, 33, 34, 35, 36, 37, 38, 39, 40, 41, 42, 43, 44, 45, 46, 47, 48, 49, 50, 51, 52, 53, 54, 55, 56, 57, 58, 59, 60, 61, 62, 63, 64, 65, 66, 67, 68, 69, 70, 71, 72, 73, 74, 75, 76, 77, 78, 79, 80, 81, 82, 83, 84, 85, 86, 87, 88, 89, 90, 91, 92, 93, 94, 95, 96, 97, 98, 99, 100, 101, 102, 103, 104, 105, 10, 106, 12, 13, 107, 108, 109, 110, 14, 20, 111, 112, 113, 114, 115, 116, 117, 118, 19, 119, 120, 121, 122, 123, 124, 125, 126, 127, 128, 129, 189, 190, 191, 192, 193, 194, 195, 196, 197, 198, 199, 200] (by decide +kernel) (by decide +kernel)
set_option maxRecDepth 20000 in
theorem gX9_net_X7_readInto : GoodIn wsX9_net (wsV RX9 93 RX7 yX7_readInto wsX7_readInto) := goodIn_app (goodIn_of _ (by decide +kernel)) ggX9_net_X7_readInto
set_option maxRecDepth 20000 in
theorem ggX9_net_X9_startAnew : GoodIn wsX9_net wsX9_startAnew := goodIn_r _ [134, 135, 136, 137, 138, 139, 140, 141, 142, 143, 144, 145, 146, 147, 148, 149, 150, 151, 152, 153, 154, 155, 156, 157, 158, 159, 160, 161, 162, 163, 164, 165, 166, 167, 168, 169, 170, 171, 172, 173, 174, 175, 176, 177, 178, 179, 180, 181, 182, 183, 184, 185, 186, 187, 188, 201, 202, 203, 204, 205, 206, 207, 208, 209, 210, 211, 212, 213, 214] (by decide +kernel) (by decide +kernel)
set_option maxRecDepth 20000 in
theorem gX9_net_X9_startAnew : GoodIn wsX9_net (wsV RX9 97 RX9 yX9_startAnew wsX9_startAnew) := goodIn_app (goodIn_of _ (by decide +kernel)) ggX9_net_X9_startAnew
theorem dX9_net_0 : decode cX9_net 0 = .ok (.aload_n 0, 1) := by decide +kernel
theorem dX9_net_1 : decode cX9_net 1 = .ok (.getfield 23, 3) := by decide +kernel
theorem dX9_net_4 : decode cX9_net 4 = .ok (.aload_n 0, 1) := by decide +kernel
theorem dX9_net_5 : decode cX9_net 5 = .ok (.getfield 19, 3) := by decide +kernel
theorem dX9_net_8 : decode cX9_net 8 = .ok (.invokevirtual 89, 3) := by decide +kernel
theorem dX9_net_11 : decode cX9_net 11 = .ok (.aload_n 0, 1) := by decide +kernel
theorem dX9_net_12 : decode cX9_net 12 = .ok (.getfield 10, 3) := by decide +kernel
theorem dX9_net_15 : decode cX9_net 15 = .ok (.aload_n 0, 1) := by decide +kernel
theorem dX9_net_16 : decode cX9_net 16 = .ok (.getfield 23, 3) := by decide +kernel
theorem dX9_net_19 : decode cX9_net 19 = .ok (.invokevirtual 93, 3) := by decide +kernel
theorem dX9_net_22 : decode cX9_net 22 = .ok (.iconst (-1), 1) := by decide +kernel
theorem dX9_net_23 : decode cX9_net 23 = .ok (.if_icmp .eq 6, 3) := by decide +kernel
theorem dX9_net_26 : decode cX9_net 26 = .ok (.ldc 88, 2) := by decide +kernel
theorem dX9_net_28 : decode cX9_net 28 = .ok (.ireturn, 1) := by decide +kernel
theorem dX9_net_29 : decode cX9_net 29 = .ok (.aload_n 0, 1) := by decide +kernel
theorem dX9_net_30 : decode cX9_net 30 = .ok (.getfield 19, 3) := by decide +kernel
theorem dX9_net_33 : decode cX9_net 33 = .ok (.aload_n 0, 1) := by decide +kernel
theorem dX9_net_34 : decode cX9_net 34 = .ok (.getfield 23, 3) := by decide +kernel
theorem dX9_net_37 : decode cX9_net 37 = .ok (.invokevirtual 89, 3) := by decide +kernel
theorem dX9_net_40 : decode cX9_net 40 = .ok (.aload_n 0, 1) := by decide +kernel
theorem dX9_net_41 : decode cX9_net 41 = .ok (.getfield 10, 3) := by decide +kernel
theorem dX9_net_44 : decode cX9_net 44 = .ok (.iconst 0, 1) := by decide +kernel
theorem dX9_net_45 : decode cX9_net 45 = .ok (.putfield 84, 3) := by decide +kernel
theorem dX9_net_48 : decode cX9_net 48 = .ok (.aload_n 0, 1) := by decide +kernel
theorem dX9_net_49 : decode cX9_net 49 = .ok (.invokevirtual 97, 3) := by decide +kernel
theorem dX9_net_52 : decode cX9_net 52 = .ok (.aload_n 0, 1) := by decide +kernel
theorem dX9_net_53 : decode cX9_net 53 = .ok (.getfield 10, 3) := by decide +kernel
theorem dX9_net_56 : decode cX9_net 56 = .ok (.getfield 100, 3) := by decide +kernel
theorem dX9_net_59 : decode cX9_net 59 = .ok (.ireturn, 1) := by decide +kernel
set_option maxRecDepth 20000 in
theorem ggX9_bus_X9_isNoBus : GoodIn wsX9_bus wsX9_isNoBus := goodIn_r _ [11, 2, 12, 13, 14, 10, 15, 27, 28, 29, 30, 31, 32, 33, 34, 35, 36, 37, 38, 39, 40, 41, 42, 43] (by decide +kernel) (by decide +kernel)
set_option maxRecDepth 20000 in
theorem gX9_bus_X9_isNoBus : GoodIn wsX9_bus (wsV RX9 103 RX9 yX9_isNoBus wsX9_isNoBus) := goodIn_app (goodIn_of _ (by decide +kernel)) ggX9_bus_X9_isNoBus
set_option maxRecDepth 20000 in
theorem ggX9_bus_X2_ohmsUpTo : GoodIn wsX9_bus wsX2_ohmsUpTo := goodIn_r _ [20, 21, 22, 39, 40, 41, 42, 43] (by decide +kernel) (by decide +kernel)
set_option maxRecDepth 20000 in
theorem gX9_bus_X2_ohmsUpTo : GoodIn wsX9_bus (wsV RX9 117 RX2 yX2_ohmsUpTo wsX2_ohmsUpTo) := goodIn_app (goodIn_of _ (by decide +kernel)) ggX9_bus_X2_ohmsUpTo
set_option maxRecDepth 20000 in
theorem ggX9_bus_X2_linesUpTo : GoodIn wsX9_bus wsX2_linesUpTo := goodIn_r _ [26, 22, 39, 40, 41, 42, 43] (by decide +kernel) (by decide +kernel)
set_option maxRecDepth 20000 in
theorem gX9_bus_X2_linesUpTo : GoodIn wsX9_bus (wsV RX9 121 RX2 yX2_linesUpTo wsX2_linesUpTo) := goodIn_app (goodIn_of _ (by decide +kernel)) ggX9_bus_X2_linesUpTo
theorem dX9_bus_0 : decode cX9_bus 0 = .ok (.aload_n 0, 1) := by decide +kernel
theorem dX9_bus_1 : decode cX9_bus 1 = .ok (.iload_n 1, 1) := by decide +kernel
theorem dX9_bus_2 : decode cX9_bus 2 = .ok (.invokevirtual 103, 3) := by decide +kernel
theorem dX9_bus_5 : decode cX9_bus 5 = .ok (.ifCond .eq 6, 3) := by decide +kernel
theorem dX9_bus_8 : decode cX9_bus 8 = .ok (.ldc 106, 2) := by decide +kernel
theorem dX9_bus_10 : decode cX9_bus 10 = .ok (.ireturn, 1) := by decide +kernel
theorem dX9_bus_11 : decode cX9_bus 11 = .ok (.iload_n 2, 1) := by decide +kernel
theorem dX9_bus_12 : decode cX9_bus 12 = .ok (.tableswitch 109 0 8 #[52, 62, 62, 62, 78, 88, 88, 88, 100], 52) := by decide +kernel
theorem dX9_bus_64 : decode cX9_bus 64 = .ok (.aload_n 0, 1) := by decide +kernel
theorem dX9_bus_65 : decode cX9_bus 65 = .ok (.getfield 19, 3) := by decide +kernel
theorem dX9_bus_68 : decode cX9_bus 68 = .ok (.getfield 107, 3) := by decide +kernel
theorem dX9_bus_71 : decode cX9_bus 71 = .ok (.iload_n 1, 1) := by decide +kernel
theorem dX9_bus_72 : decode cX9_bus 72 = .ok (.iaload, 1) := by decide +kernel
theorem dX9_bus_73 : decode cX9_bus 73 = .ok (.ireturn, 1) := by decide +kernel
theorem dX9_bus_74 : decode cX9_bus 74 = .ok (.aload_n 0, 1) := by decide +kernel
theorem dX9_bus_75 : decode cX9_bus 75 = .ok (.getfield 19, 3) := by decide +kernel
theorem dX9_bus_78 : decode cX9_bus 78 = .ok (.getfield 111, 3) := by decide +kernel
theorem dX9_bus_81 : decode cX9_bus 81 = .ok (.iload_n 1, 1) := by decide +kernel
theorem dX9_bus_82 : decode cX9_bus 82 = .ok (.iconst 3, 1) := by decide +kernel
theorem dX9_bus_83 : decode cX9_bus 83 = .ok (.imul, 1) := by decide +kernel
theorem dX9_bus_84 : decode cX9_bus 84 = .ok (.iload_n 2, 1) := by decide +kernel
theorem dX9_bus_85 : decode cX9_bus 85 = .ok (.iadd, 1) := by decide +kernel
theorem dX9_bus_86 : decode cX9_bus 86 = .ok (.iconst 1, 1) := by decide +kernel
theorem dX9_bus_87 : decode cX9_bus 87 = .ok (.isub, 1) := by decide +kernel
theorem dX9_bus_88 : decode cX9_bus 88 = .ok (.iaload, 1) := by decide +kernel
theorem dX9_bus_89 : decode cX9_bus 89 = .ok (.ireturn, 1) := by decide +kernel
theorem dX9_bus_90 : decode cX9_bus 90 = .ok (.aload_n 0, 1) := by decide +kernel
theorem dX9_bus_91 : decode cX9_bus 91 = .ok (.getfield 19, 3) := by decide +kernel
theorem dX9_bus_94 : decode cX9_bus 94 = .ok (.getfield 114, 3) := by decide +kernel
theorem dX9_bus_97 : decode cX9_bus 97 = .ok (.iload_n 1, 1) := by decide +kernel
theorem dX9_bus_98 : decode cX9_bus 98 = .ok (.iaload, 1) := by decide +kernel
theorem dX9_bus_99 : decode cX9_bus 99 = .ok (.ireturn, 1) := by decide +kernel
theorem dX9_bus_100 : decode cX9_bus 100 = .ok (.aload_n 0, 1) := by decide +kernel
theorem dX9_bus_101 : decode cX9_bus 101 = .ok (.getfield 19, 3) := by decide +kernel
theorem dX9_bus_104 : decode cX9_bus 104 = .ok (.iload_n 1, 1) := by decide +kernel
theorem dX9_bus_105 : decode cX9_bus 105 = .ok (.iload_n 2, 1) := by decide +kernel
theorem dX9_bus_106 : decode cX9_bus 106 = .ok (.iconst 5, 1) := by decide +kernel
theorem dX9_bus_107 : decode cX9_bus 107 = .ok (.isub, 1) := by decide +kernel
theorem dX9_bus_108 : decode cX9_bus 108 = .ok (.invokevirtual 117, 3) := by decide +kernel
theorem dX9_bus_111 : decode cX9_bus 111 = .ok (.ireturn, 1) := by decide +kernel
theorem dX9_bus_112 : decode cX9_bus 112 = .ok (.aload_n 0, 1) := by decide +kernel
theorem dX9_bus_113 : decode cX9_bus 113 = .ok (.getfield 19, 3) := by decide +kernel
theorem dX9_bus_116 : decode cX9_bus 116 = .ok (.iload_n 1, 1) := by decide +kernel
theorem dX9_bus_117 : decode cX9_bus 117 = .ok (.invokevirtual 121, 3) := by decide +kernel
theorem dX9_bus_120 : decode cX9_bus 120 = .ok (.ireturn, 1) := by decide +kernel
theorem dX9_bus_121 : decode cX9_bus 121 = .ok (.ldc 79, 2) := by decide +kernel
theorem dX9_bus_123 : decode cX9_bus 123 = .ok (.ireturn, 1) := by decide +kernel
set_option maxRecDepth 20000 in
theorem ggX9_phase_X9_isNoPhase : GoodIn wsX9_phase wsX9_isNoPhase := goodIn_r _ [11, 12, 13, 10, 14] (by decide +kernel) (by decide +kernel)
set_option maxRecDepth 20000 in
theorem gX9_phase_X9_isNoPhase : GoodIn wsX9_phase (va_wsS RX9 125 yX9_isNoPhase wsX9_isNoPhase) := goodIn_app (goodIn_of _ (by decide +kernel)) ggX9_phase_X9_isNoPhase
set_option maxRecDepth 20000 in
theorem ggX9_phase_X9_isNoWhole : GoodIn wsX9_phase wsX9_isNoWhole := goodIn_r _ [17, 12, 13, 10, 14] (by decide +kernel) (by decide +kernel)
set_option maxRecDepth 20000 in
theorem gX9_phase_X9_isNoWhole : GoodIn wsX9_phase (va_wsS RX9 128 yX9_isNoWhole wsX9_isNoWhole) := goodIn_app (goodIn_of _ (by decide +kernel)) ggX9_phase_X9_isNoWhole
set_option maxRecDepth 20000 in
theorem ggX9_phase_X9_isOutside : GoodIn wsX9_phase wsX9_isOutside := goodIn_r _ [14] (by decide +kernel) (by decide +kernel)
set_option maxRecDepth 20000 in
theorem gX9_phase_X9_isOutside : GoodIn wsX9_phase (va_wsS RX9 75 yX9_isOutside wsX9_isOutside) := goodIn_app (goodIn_of _ (by decide +kernel)) ggX9_phase_X9_isOutside
set_option maxRecDepth 20000 in
theorem ggX9_phase_X3_add : GoodIn wsX9_phase wsX3_add := goodIn_r _ [22, 23, 24, 25, 26, 27, 28, 29, 30, 31, 32, 33, 34, 35, 36, 37, 38, 39, 40, 41, 42, 43, 44, 45, 46, 47, 48, 49, 50, 79, 80, 81, 76, 77, 78, 82, 83, 84] (by decide +kernel) (by decide +kernel)
set_option maxRecDepth 20000 in
theorem gX9_phase_X3_add : GoodIn wsX9_phase (wsV RX9 131 RX3 yX3_add wsX3_add) := goodIn_app (goodIn_of _ (by decide +kernel)) ggX9_phase_X3_add
set_option maxRecDepth 20000 in
theorem ggX9_phase_X1_become_ : GoodIn wsX9_phase wsX1_become_ := goodIn_r _ [54, 48, 49, 50, 55, 56, 57, 58, 46, 59, 60, 61, 62, 63, 82, 83, 84] (by decide +kernel) (by decide +kernel)
set_option maxRecDepth 20000 in
theorem gX9_phase_X1_become_ : GoodIn wsX9_phase (wsV RX9 145 RX1 yX1_become_ wsX1_become_) := goodIn_app (goodIn_of _ (by decide +kernel)) ggX9_phase_X1_become_
theorem dX9_phase_0 : decode cX9_phase 0 = .ok (.iload_n 1, 1) := by decide +kernel
theorem dX9_phase_1 : decode cX9_phase 1 = .ok (.invokestatic 125, 3) := by decide +kernel
theorem dX9_phase_4 : decode cX9_phase 4 = .ok (.ifCond .eq 6, 3) := by decide +kernel
theorem dX9_phase_7 : decode cX9_phase 7 = .ok (.ldc 106, 2) := by decide +kernel
theorem dX9_phase_9 : decode cX9_phase 9 = .ok (.ireturn, 1) := by decide +kernel
theorem dX9_phase_10 : decode cX9_phase 10 = .ok (.iload_n 2, 1) := by decide +kernel
theorem dX9_phase_11 : decode cX9_phase 11 = .ok (.invokestatic 128, 3) := by decide +kernel
theorem dX9_phase_14 : decode cX9_phase 14 = .ok (.ifCond .ne 34, 3) := by decide +kernel
theorem dX9_phase_17 : decode cX9_phase 17 = .ok (.iload_n 3, 1) := by decide +kernel
theorem dX9_phase_18 : decode cX9_phase 18 = .ok (.iconst 1, 1) := by decide +kernel
theorem dX9_phase_19 : decode cX9_phase 19 = .ok (.sipush 9999, 3) := by decide +kernel
theorem dX9_phase_22 : decode cX9_phase 22 = .ok (.invokestatic 75, 3) := by decide +kernel
theorem dX9_phase_25 : decode cX9_phase 25 = .ok (.ifCond .ne 23, 3) := by decide +kernel
theorem dX9_phase_28 : decode cX9_phase 28 = .ok (.iload 4, 2) := by decide +kernel
theorem dX9_phase_30 : decode cX9_phase 30 = .ok (.invokestatic 128, 3) := by decide +kernel
theorem dX9_phase_33 : decode cX9_phase 33 = .ok (.ifCond .ne 15, 3) := by decide +kernel
theorem dX9_phase_36 : decode cX9_phase 36 = .ok (.iload 5, 2) := by decide +kernel
theorem dX9_phase_38 : decode cX9_phase 38 = .ok (.iconst 1, 1) := by decide +kernel
theorem dX9_phase_39 : decode cX9_phase 39 = .ok (.sipush 9999, 3) := by decide +kernel
theorem dX9_phase_42 : decode cX9_phase 42 = .ok (.invokestatic 75, 3) := by decide +kernel
theorem dX9_phase_45 : decode cX9_phase 45 = .ok (.ifCond .eq 6, 3) := by decide +kernel
theorem dX9_phase_48 : decode cX9_phase 48 = .ok (.ldc 79, 2) := by decide +kernel
theorem dX9_phase_50 : decode cX9_phase 50 = .ok (.ireturn, 1) := by decide +kernel
theorem dX9_phase_51 : decode cX9_phase 51 = .ok (.aload_n 0, 1) := by decide +kernel
theorem dX9_phase_52 : decode cX9_phase 52 = .ok (.getfield 39, 3) := by decide +kernel
theorem dX9_phase_55 : decode cX9_phase 55 = .ok (.aload_n 0, 1) := by decide +kernel
theorem dX9_phase_56 : decode cX9_phase 56 = .ok (.getfield 29, 3) := by decide +kernel
theorem dX9_phase_59 : decode cX9_phase 59 = .ok (.invokevirtual 131, 3) := by decide +kernel
theorem dX9_phase_62 : decode cX9_phase 62 = .ok (.aload_n 0, 1) := by decide +kernel
theorem dX9_phase_63 : decode cX9_phase 63 = .ok (.getfield 29, 3) := by decide +kernel
theorem dX9_phase_66 : decode cX9_phase 66 = .ok (.getfield 135, 3) := by decide +kernel
theorem dX9_phase_69 : decode cX9_phase 69 = .ok (.iload_n 1, 1) := by decide +kernel
theorem dX9_phase_70 : decode cX9_phase 70 = .ok (.aaload, 1) := by decide +kernel
theorem dX9_phase_71 : decode cX9_phase 71 = .ok (.getfield 139, 3) := by decide +kernel
theorem dX9_phase_74 : decode cX9_phase 74 = .ok (.iload_n 2, 1) := by decide +kernel
theorem dX9_phase_75 : decode cX9_phase 75 = .ok (.i2l, 1) := by decide +kernel
theorem dX9_phase_76 : decode cX9_phase 76 = .ok (.iload_n 3, 1) := by decide +kernel
theorem dX9_phase_77 : decode cX9_phase 77 = .ok (.i2l, 1) := by decide +kernel
theorem dX9_phase_78 : decode cX9_phase 78 = .ok (.invokevirtual 145, 3) := by decide +kernel
theorem dX9_phase_81 : decode cX9_phase 81 = .ok (.aload_n 0, 1) := by decide +kernel
theorem dX9_phase_82 : decode cX9_phase 82 = .ok (.getfield 29, 3) := by decide +kernel
theorem dX9_phase_85 : decode cX9_phase 85 = .ok (.getfield 135, 3) := by decide +kernel
theorem dX9_phase_88 : decode cX9_phase 88 = .ok (.iload_n 1, 1) := by decide +kernel
theorem dX9_phase_89 : decode cX9_phase 89 = .ok (.aaload, 1) := by decide +kernel
theorem dX9_phase_90 : decode cX9_phase 90 = .ok (.getfield 150, 3) := by decide +kernel
theorem dX9_phase_93 : decode cX9_phase 93 = .ok (.iload 4, 2) := by decide +kernel
theorem dX9_phase_95 : decode cX9_phase 95 = .ok (.i2l, 1) := by decide +kernel
theorem dX9_phase_96 : decode cX9_phase 96 = .ok (.iload 5, 2) := by decide +kernel
theorem dX9_phase_98 : decode cX9_phase 98 = .ok (.i2l, 1) := by decide +kernel
theorem dX9_phase_99 : decode cX9_phase 99 = .ok (.invokevirtual 145, 3) := by decide +kernel
theorem dX9_phase_102 : decode cX9_phase 102 = .ok (.iconst 1, 1) := by decide +kernel
theorem dX9_phase_103 : decode cX9_phase 103 = .ok (.ireturn, 1) := by decide +kernel
set_option maxRecDepth 20000 in
theorem ggX9_split_X5_combineAll : GoodIn wsX9_split wsX5_combineAll := goodIn_r _ [10, 11, 12, 13, 14, 15, 16, 17, 18, 19, 20, 21, 22, 23, 24, 25, 26, 27, 28, 29, 9, 30, 31, 32, 33, 34, 35, 36, 37, 38, 39, 40, 41, 42, 43, 44, 45, 46, 47, 48, 49, 50, 51, 52, 53, 54, 55, 56, 57, 58, 59, 60, 118, 119, 120, 121, 122, 123, 124, 125, 126, 127, 128] (by decide +kernel) (by decide +kernel)
set_option maxRecDepth 20000 in
theorem gX9_split_X5_combineAll : GoodIn wsX9_split (wsV RX9 156 RX5 yX5_combineAll wsX5_combineAll) := goodIn_app (goodIn_of _ (by decide +kernel)) ggX9_split_X5_combineAll
set_option maxRecDepth 20000 in
theorem ggX9_split_X4_divideByThree : GoodIn wsX9_split wsX4_divideByThree := goodIn_r _ [64, 17, 18, 65, 66, 67, 22, 68, 26, 24, 25, 69, 47, 48, 49, 50, 51, 52, 40, 41, 42, 43, 44, 45, 46, 119, 120, 121, 122, 123] (by decide +kernel) (by decide +kernel)
set_option maxRecDepth 20000 in
theorem gX9_split_X4_divideByThree : GoodIn wsX9_split (wsV RX9 160 RX4 yX4_divideByThree wsX4_divideByThree) := goodIn_app (goodIn_of _ (by decide +kernel)) ggX9_split_X4_divideByThree
set_option maxRecDepth 20000 in
theorem ggX9_split_X9_takeResult : GoodIn wsX9_split wsX9_takeResult := goodIn_r _ [74, 4, 75, 76, 2, 77, 78, 79, 80, 81, 82, 83, 84, 85, 15, 86, 17, 87, 18, 88, 89, 90, 91, 92, 93, 94, 95, 96, 97, 98, 99, 100, 101, 102, 103, 104, 13, 14, 16, 19, 20, 21, 22, 23, 24, 25, 26, 105, 106, 107, 108, 109, 110, 111, 112, 113, 114, 115, 116, 117, 118, 119, 120, 121, 122, 123, 129, 130, 131] (by decide +kernel) (by decide +kernel)
set_option maxRecDepth 20000 in
theorem gX9_split_X9_takeResult : GoodIn wsX9_split (wsV RX9 163 RX9 yX9_takeResult wsX9_takeResult) := goodIn_app (goodIn_of _ (by decide +kernel)) ggX9_split_X9_takeResult
theorem dX9_split_0 : decode cX9_split 0 = .ok (.aload_n 0, 1) := by decide +kernel
theorem dX9_split_1 : decode cX9_split 1 = .ok (.getfield 54, 3) := by decide +kernel
theorem dX9_split_4 : decode cX9_split 4 = .ok (.aload_n 0, 1) := by decide +kernel
theorem dX9_split_5 : decode cX9_split 5 = .ok (.getfield 29, 3) := by decide +kernel
theorem dX9_split_8 : decode cX9_split 8 = .ok (.getstatic 153, 3) := by decide +kernel
theorem dX9_split_11 : decode cX9_split 11 = .ok (.aload_n 0, 1) := by decide +kernel
theorem dX9_split_12 : decode cX9_split 12 = .ok (.getfield 33, 3) := by decide +kernel
theorem dX9_split_15 : decode cX9_split 15 = .ok (.invokevirtual 156, 3) := by decide +kernel
theorem dX9_split_18 : decode cX9_split 18 = .ok (.iconst 0, 1) := by decide +kernel
theorem dX9_split_19 : decode cX9_split 19 = .ok (.istore_n 1, 1) := by decide +kernel
theorem dX9_split_20 : decode cX9_split 20 = .ok (.iload_n 1, 1) := by decide +kernel
theorem dX9_split_21 : decode cX9_split 21 = .ok (.iconst 3, 1) := by decide +kernel
theorem dX9_split_22 : decode cX9_split 22 = .ok (.if_icmp .ge 21, 3) := by decide +kernel
theorem dX9_split_25 : decode cX9_split 25 = .ok (.aload_n 0, 1) := by decide +kernel
theorem dX9_split_26 : decode cX9_split 26 = .ok (.getfield 33, 3) := by decide +kernel
theorem dX9_split_29 : decode cX9_split 29 = .ok (.getfield 135, 3) := by decide +kernel
theorem dX9_split_32 : decode cX9_split 32 = .ok (.iload_n 1, 1) := by decide +kernel
theorem dX9_split_33 : decode cX9_split 33 = .ok (.aaload, 1) := by decide +kernel
theorem dX9_split_34 : decode cX9_split 34 = .ok (.invokevirtual 160, 3) := by decide +kernel
theorem dX9_split_37 : decode cX9_split 37 = .ok (.iinc 1 1, 3) := by decide +kernel
theorem dX9_split_40 : decode cX9_split 40 = .ok (.goto (-20), 3) := by decide +kernel
theorem dX9_split_43 : decode cX9_split 43 = .ok (.aload_n 0, 1) := by decide +kernel
theorem dX9_split_44 : decode cX9_split 44 = .ok (.invokevirtual 163, 3) := by decide +kernel
theorem dX9_split_47 : decode cX9_split 47 = .ok (.ireturn, 1) := by decide +kernel
set_option maxRecDepth 20000 in
theorem ggX9_join_X5_combineAll : GoodIn wsX9_join wsX5_combineAll := goodIn_r _ [9, 10, 11, 12, 13, 14, 15, 16, 17, 18, 19, 20, 21, 22, 23, 24, 25, 26, 27, 28, 8, 29, 30, 31, 32, 33, 34, 35, 36, 37, 38, 39, 40, 41, 42, 43, 44, 45, 46, 47, 48, 49, 50, 51, 52, 53, 54, 55, 56, 57, 58, 59, 108, 109, 110, 111, 112, 113, 114, 115, 116, 117, 118] (by decide +kernel) (by decide +kernel)
set_option maxRecDepth 20000 in
theorem gX9_join_X5_combineAll : GoodIn wsX9_join (wsV RX9 156 RX5 yX5_combineAll wsX5_combineAll) := goodIn_app (goodIn_of _ (by decide +kernel)) ggX9_join_X5_combineAll
set_option maxRecDepth 20000 in
theorem ggX9_join_X9_takeResult : GoodIn wsX9_join wsX9_takeResult := goodIn_r _ [64, 4, 65, 66, 2, 67, 68, 69, 70, 71, 72, 73, 74, 75, 14, 76, 16, 77, 17, 78, 79, 80, 81, 82, 83, 84, 85, 86, 87, 88, 89, 90, 91, 92, 93, 94, 12, 13, 15, 18, 19, 20, 21, 22, 23, 24, 25, 95, 96, 97, 98, 99, 100, 101, 102, 103, 104, 105, 106, 107, 108, 109, 110, 111, 112, 113, 119, 120, 121] (by decide +kernel) (by decide +kernel)
set_option maxRecDepth 20000 in
theorem gX9_join_X9_takeResult : GoodIn wsX9_join (wsV RX9 163 RX9 yX9_takeResult wsX9_takeResult) := goodIn_app (goodIn_of _ (by decide +kernel)) ggX9_join_X9_takeResult
theorem dX9_join_0 : decode cX9_join 0 = .ok (.aload_n 0, 1) := by decide +kernel
theorem dX9_join_1 : decode cX9_join 1 = .ok (.getfield 54, 3) := by decide +kernel
theorem dX9_join_4 : decode cX9_join 4 = .ok (.aload_n 0, 1) := by decide +kernel
theorem dX9_join_5 : decode cX9_join 5 = .ok (.getfield 29, 3) := by decide +kernel
theorem dX9_join_8 : decode cX9_join 8 = .ok (.getstatic 167, 3) := by decide +kernel
theorem dX9_join_11 : decode cX9_join 11 = .ok (.aload_n 0, 1) := by decide +kernel
theorem dX9_join_12 : decode cX9_join 12 = .ok (.getfield 33, 3) := by decide +kernel
theorem dX9_join_15 : decode cX9_join 15 = .ok (.invokevirtual 156, 3) := by decide +kernel
theorem dX9_join_18 : decode cX9_join 18 = .ok (.aload_n 0, 1) := by decide +kernel
theorem dX9_join_19 : decode cX9_join 19 = .ok (.invokevirtual 163, 3) := by decide +kernel
theorem dX9_join_22 : decode cX9_join 22 = .ok (.ireturn, 1) := by decide +kernel
set_option maxRecDepth 20000 in
theorem ggX9_turn_X3_add : GoodIn wsX9_turn wsX3_add := goodIn_r _ [7, 8, 9, 10, 11, 12, 13, 14, 15, 16, 17, 18, 19, 20, 21, 22, 23, 24, 25, 26, 27, 28, 29, 30, 31, 32, 33, 34, 35, 52, 53, 54, 55, 56, 57, 58, 59, 60] (by decide +kernel) (by decide +kernel)
set_option maxRecDepth 20000 in
theorem gX9_turn_X3_add : GoodIn wsX9_turn (wsV RX9 131 RX3 yX3_add wsX3_add) := goodIn_app (goodIn_of _ (by decide +kernel)) ggX9_turn_X3_add
set_option maxRecDepth 20000 in
theorem ggX9_turn_X8_rotate : GoodIn wsX9_turn wsX8_rotate := goodIn_r _ [39, 20, 55] (by decide +kernel) (by decide +kernel)
set_option maxRecDepth 20000 in
theorem gX9_turn_X8_rotate : GoodIn wsX9_turn (wsV RX9 170 RX8 yX8_rotate wsX8_rotate) := goodIn_app (goodIn_of _ (by decide +kernel)) ggX9_turn_X8_rotate
theorem dX9_turn_0 : decode cX9_turn 0 = .ok (.aload_n 0, 1) := by decide +kernel
theorem dX9_turn_1 : decode cX9_turn 1 = .ok (.getfield 39, 3) := by decide +kernel
theorem dX9_turn_4 : decode cX9_turn 4 = .ok (.aload_n 0, 1) := by decide +kernel
theorem dX9_turn_5 : decode cX9_turn 5 = .ok (.getfield 29, 3) := by decide +kernel
theorem dX9_turn_8 : decode cX9_turn 8 = .ok (.invokevirtual 131, 3) := by decide +kernel
theorem dX9_turn_11 : decode cX9_turn 11 = .ok (.aload_n 0, 1) := by decide +kernel
theorem dX9_turn_12 : decode cX9_turn 12 = .ok (.getfield 29, 3) := by decide +kernel
theorem dX9_turn_15 : decode cX9_turn 15 = .ok (.invokevirtual 170, 3) := by decide +kernel
theorem dX9_turn_18 : decode cX9_turn 18 = .ok (.iconst 1, 1) := by decide +kernel
theorem dX9_turn_19 : decode cX9_turn 19 = .ok (.ireturn, 1) := by decide +kernel
set_option maxRecDepth 20000 in
theorem ggX9_load_X9_askFault : GoodIn wsX9_load wsX9_askFault := goodIn_r _ [12, 13, 14, 5, 15, 16, 17, 18, 19, 11, 20, 21, 22, 23, 24, 25, 26, 27, 28, 29, 30, 31, 32, 33, 34, 35, 36, 37, 38, 39, 40, 41, 42, 43, 44, 45, 46, 47, 48, 49, 50, 51, 106, 107, 108, 109, 110, 111, 112, 113, 114, 115, 116, 117, 125, 126, 127, 128, 129, 121, 122, 123, 124] (by decide +kernel) (by decide +kernel)
set_option maxRecDepth 20000 in
theorem gX9_load_X9_askFault : GoodIn wsX9_load (wsV RX9 173 RX9 yX9_askFault wsX9_askFault) := goodIn_app (goodIn_of _ (by decide +kernel)) ggX9_load_X9_askFault
set_option maxRecDepth 20000 in
theorem ggX9_load_X3_add : GoodIn wsX9_load wsX3_add := goodIn_r _ [56, 57, 58, 59, 60, 61, 62, 63, 64, 65, 66, 67, 68, 69, 70, 71, 72, 73, 74, 75, 76, 77, 78, 79, 80, 81, 82, 83, 84, 130, 131, 132, 118, 119, 120, 133, 134, 135] (by decide +kernel) (by decide +kernel)
set_option maxRecDepth 20000 in
theorem gX9_load_X3_add : GoodIn wsX9_load (wsV RX9 131 RX3 yX3_add wsX3_add) := goodIn_app (goodIn_of _ (by decide +kernel)) ggX9_load_X3_add
set_option maxRecDepth 20000 in
theorem ggX9_load_X0_a : GoodIn wsX9_load wsX0_a := goodIn_r _ [88, 49, 50, 51, 121, 122, 123, 124] (by decide +kernel) (by decide +kernel)
set_option maxRecDepth 20000 in
theorem gX9_load_X0_a : GoodIn wsX9_load (wsV RX9 177 RX0 yX0_a wsX0_a) := goodIn_app (goodIn_of _ (by decide +kernel)) ggX9_load_X0_a
set_option maxRecDepth 20000 in
theorem ggX9_load_X1_become_ : GoodIn wsX9_load wsX1_become_ := goodIn_r _ [92, 82, 83, 84, 93, 94, 95, 96, 80, 97, 98, 99, 100, 101, 133, 134, 135] (by decide +kernel) (by decide +kernel)
set_option maxRecDepth 20000 in
theorem gX9_load_X1_become_ : GoodIn wsX9_load (wsV RX9 145 RX1 yX1_become_ wsX1_become_) := goodIn_app (goodIn_of _ (by decide +kernel)) ggX9_load_X1_become_
set_option maxRecDepth 20000 in
theorem ggX9_load_X0_b : GoodIn wsX9_load wsX0_b := goodIn_r _ [105, 51, 50, 121, 122, 123, 124] (by decide +kernel) (by decide +kernel)
set_option maxRecDepth 20000 in
theorem gX9_load_X0_b : GoodIn wsX9_load (wsV RX9 184 RX0 yX0_b wsX0_b) := goodIn_app (goodIn_of _ (by decide +kernel)) ggX9_load_X0_b
theorem dX9_load_0 : decode cX9_load 0 = .ok (.aload_n 0, 1) := by decide +kernel
theorem dX9_load_1 : decode cX9_load 1 = .ok (.iload_n 1, 1) := by decide +kernel
theorem dX9_load_2 : decode cX9_load 2 = .ok (.iload_n 2, 1) := by decide +kernel
theorem dX9_load_3 : decode cX9_load 3 = .ok (.iload_n 3, 1) := by decide +kernel
theorem dX9_load_4 : decode cX9_load 4 = .ok (.iconst 0, 1) := by decide +kernel
theorem dX9_load_5 : decode cX9_load 5 = .ok (.invokevirtual 173, 3) := by decide +kernel
theorem dX9_load_8 : decode cX9_load 8 = .ok (.istore 4, 2) := by decide +kernel
theorem dX9_load_10 : decode cX9_load 10 = .ok (.iload 4, 2) := by decide +kernel
theorem dX9_load_12 : decode cX9_load 12 = .ok (.ifCond .eq 6, 3) := by decide +kernel
theorem dX9_load_15 : decode cX9_load 15 = .ok (.iload 4, 2) := by decide +kernel
theorem dX9_load_17 : decode cX9_load 17 = .ok (.ireturn, 1) := by decide +kernel
theorem dX9_load_18 : decode cX9_load 18 = .ok (.aload_n 0, 1) := by decide +kernel
theorem dX9_load_19 : decode cX9_load 19 = .ok (.getfield 39, 3) := by decide +kernel
theorem dX9_load_22 : decode cX9_load 22 = .ok (.aload_n 0, 1) := by decide +kernel
theorem dX9_load_23 : decode cX9_load 23 = .ok (.getfield 29, 3) := by decide +kernel
theorem dX9_load_26 : decode cX9_load 26 = .ok (.invokevirtual 131, 3) := by decide +kernel
theorem dX9_load_29 : decode cX9_load 29 = .ok (.iconst 0, 1) := by decide +kernel
theorem dX9_load_30 : decode cX9_load 30 = .ok (.istore 5, 2) := by decide +kernel
theorem dX9_load_32 : decode cX9_load 32 = .ok (.iload 5, 2) := by decide +kernel
theorem dX9_load_34 : decode cX9_load 34 = .ok (.iconst 3, 1) := by decide +kernel
theorem dX9_load_35 : decode cX9_load 35 = .ok (.if_icmp .ge 73, 3) := by decide +kernel
theorem dX9_load_38 : decode cX9_load 38 = .ok (.aload_n 0, 1) := by decide +kernel
theorem dX9_load_39 : decode cX9_load 39 = .ok (.getfield 29, 3) := by decide +kernel
theorem dX9_load_42 : decode cX9_load 42 = .ok (.getfield 135, 3) := by decide +kernel
theorem dX9_load_45 : decode cX9_load 45 = .ok (.iload 5, 2) := by decide +kernel
theorem dX9_load_47 : decode cX9_load 47 = .ok (.aaload, 1) := by decide +kernel
theorem dX9_load_48 : decode cX9_load 48 = .ok (.getfield 139, 3) := by decide +kernel
theorem dX9_load_51 : decode cX9_load 51 = .ok (.aload_n 0, 1) := by decide +kernel
theorem dX9_load_52 : decode cX9_load 52 = .ok (.getfield 61, 3) := by decide +kernel
theorem dX9_load_55 : decode cX9_load 55 = .ok (.iload 5, 2) := by decide +kernel
theorem dX9_load_57 : decode cX9_load 57 = .ok (.invokevirtual 177, 3) := by decide +kernel
theorem dX9_load_60 : decode cX9_load 60 = .ok (.aload_n 0, 1) := by decide +kernel
theorem dX9_load_61 : decode cX9_load 61 = .ok (.getfield 61, 3) := by decide +kernel
theorem dX9_load_64 : decode cX9_load 64 = .ok (.getfield 180, 3) := by decide +kernel
theorem dX9_load_67 : decode cX9_load 67 = .ok (.invokevirtual 145, 3) := by decide +kernel
theorem dX9_load_70 : decode cX9_load 70 = .ok (.aload_n 0, 1) := by decide +kernel
theorem dX9_load_71 : decode cX9_load 71 = .ok (.getfield 29, 3) := by decide +kernel
theorem dX9_load_74 : decode cX9_load 74 = .ok (.getfield 135, 3) := by decide +kernel
theorem dX9_load_77 : decode cX9_load 77 = .ok (.iload 5, 2) := by decide +kernel
theorem dX9_load_79 : decode cX9_load 79 = .ok (.aaload, 1) := by decide +kernel
theorem dX9_load_80 : decode cX9_load 80 = .ok (.getfield 150, 3) := by decide +kernel
theorem dX9_load_83 : decode cX9_load 83 = .ok (.aload_n 0, 1) := by decide +kernel
theorem dX9_load_84 : decode cX9_load 84 = .ok (.getfield 61, 3) := by decide +kernel
theorem dX9_load_87 : decode cX9_load 87 = .ok (.iload 5, 2) := by decide +kernel
theorem dX9_load_89 : decode cX9_load 89 = .ok (.invokevirtual 184, 3) := by decide +kernel
theorem dX9_load_92 : decode cX9_load 92 = .ok (.aload_n 0, 1) := by decide +kernel
theorem dX9_load_93 : decode cX9_load 93 = .ok (.getfield 61, 3) := by decide +kernel
theorem dX9_load_96 : decode cX9_load 96 = .ok (.getfield 180, 3) := by decide +kernel
theorem dX9_load_99 : decode cX9_load 99 = .ok (.invokevirtual 145, 3) := by decide +kernel
theorem dX9_load_102 : decode cX9_load 102 = .ok (.iinc 5 1, 3) := by decide +kernel
theorem dX9_load_105 : decode cX9_load 105 = .ok (.goto (-73), 3) := by decide +kernel
theorem dX9_load_108 : decode cX9_load 108 = .ok (.iconst 1, 1) := by decide +kernel
theorem dX9_load_109 : decode cX9_load 109 = .ok (.ireturn, 1) := by decide +kernel
set_option maxRecDepth 20000 in
theorem ggX9_undo_X3_giveBack : GoodIn wsX9_undo wsX3_giveBack := goodIn_r _ [9, 10, 11, 12, 13, 14, 15, 16, 17, 18, 19, 20, 21, 22, 23, 24, 25, 26, 27, 28, 29, 30, 31, 32, 33, 46, 47, 48, 49, 50, 51, 52, 53, 54] (by decide +kernel) (by decide +kernel)
set_option maxRecDepth 20000 in
theorem gX9_undo_X3_giveBack : GoodIn wsX9_undo (wsV RX9 186 RX3 yX3_giveBack wsX3_giveBack) := goodIn_app (goodIn_of _ (by decide +kernel)) ggX9_undo_X3_giveBack
theorem dX9_undo_0 : decode cX9_undo 0 = .ok (.aload_n 0, 1) := by decide +kernel
theorem dX9_undo_1 : decode cX9_undo 1 = .ok (.getfield 39, 3) := by decide +kernel
theorem dX9_undo_4 : decode cX9_undo 4 = .ok (.aload_n 0, 1) := by decide +kernel
theorem dX9_undo_5 : decode cX9_undo 5 = .ok (.getfield 29, 3) := by decide +kernel
theorem dX9_undo_8 : decode cX9_undo 8 = .ok (.invokevirtual 186, 3) := by decide +kernel
theorem dX9_undo_11 : decode cX9_undo 11 = .ok (.ifCond .eq 13, 3) := by decide +kernel
theorem dX9_undo_14 : decode cX9_undo 14 = .ok (.aload_n 0, 1) := by decide +kernel
theorem dX9_undo_15 : decode cX9_undo 15 = .ok (.getfield 39, 3) := by decide +kernel
theorem dX9_undo_18 : decode cX9_undo 18 = .ok (.getfield 190, 3) := by decide +kernel
theorem dX9_undo_21 : decode cX9_undo 21 = .ok (.goto 5, 3) := by decide +kernel
theorem dX9_undo_24 : decode cX9_undo 24 = .ok (.ldc 88, 2) := by decide +kernel
theorem dX9_undo_26 : decode cX9_undo 26 = .ok (.ireturn, 1) := by decide +kernel
set_option maxRecDepth 20000 in
theorem ggX9_keep_X9_isOutside : GoodIn wsX9_keep wsX9_isOutside := goodIn_r _ [8] (by decide +kernel) (by decide +kernel)
set_option maxRecDepth 20000 in
theorem gX9_keep_X9_isOutside : GoodIn wsX9_keep (va_wsS RX9 75 yX9_isOutside wsX9_isOutside) := goodIn_app (goodIn_of _ (by decide +kernel)) ggX9_keep_X9_isOutside
set_option maxRecDepth 20000 in
theorem ggX9_keep_X8_become : GoodIn wsX9_keep wsX8_become := goodIn_r _ [13, 14, 15, 16, 17, 18, 19, 20, 21, 22, 23, 24, 25, 26, 27, 28, 29, 42, 43, 44, 45, 46, 47] (by decide +kernel) (by decide +kernel)
set_option maxRecDepth 20000 in
theorem gX9_keep_X8_become : GoodIn wsX9_keep (wsV RX9 193 RX8 yX8_become wsX8_become) := goodIn_app (goodIn_of _ (by decide +kernel)) ggX9_keep_X8_become
theorem dX9_keep_0 : decode cX9_keep 0 = .ok (.iload_n 1, 1) := by decide +kernel
theorem dX9_keep_1 : decode cX9_keep 1 = .ok (.iconst 0, 1) := by decide +kernel
theorem dX9_keep_2 : decode cX9_keep 2 = .ok (.iconst 1, 1) := by decide +kernel
theorem dX9_keep_3 : decode cX9_keep 3 = .ok (.invokestatic 75, 3) := by decide +kernel
theorem dX9_keep_6 : decode cX9_keep 6 = .ok (.ifCond .eq 6, 3) := by decide +kernel
theorem dX9_keep_9 : decode cX9_keep 9 = .ok (.ldc 79, 2) := by decide +kernel
theorem dX9_keep_11 : decode cX9_keep 11 = .ok (.ireturn, 1) := by decide +kernel
theorem dX9_keep_12 : decode cX9_keep 12 = .ok (.aload_n 0, 1) := by decide +kernel
theorem dX9_keep_13 : decode cX9_keep 13 = .ok (.getfield 43, 3) := by decide +kernel
theorem dX9_keep_16 : decode cX9_keep 16 = .ok (.iload_n 1, 1) := by decide +kernel
theorem dX9_keep_17 : decode cX9_keep 17 = .ok (.aaload, 1) := by decide +kernel
theorem dX9_keep_18 : decode cX9_keep 18 = .ok (.aload_n 0, 1) := by decide +kernel
theorem dX9_keep_19 : decode cX9_keep 19 = .ok (.getfield 29, 3) := by decide +kernel
theorem dX9_keep_22 : decode cX9_keep 22 = .ok (.invokevirtual 193, 3) := by decide +kernel
theorem dX9_keep_25 : decode cX9_keep 25 = .ok (.aload_n 0, 1) := by decide +kernel
theorem dX9_keep_26 : decode cX9_keep 26 = .ok (.getfield 47, 3) := by decide +kernel
theorem dX9_keep_29 : decode cX9_keep 29 = .ok (.iload_n 1, 1) := by decide +kernel
theorem dX9_keep_30 : decode cX9_keep 30 = .ok (.iconst 1, 1) := by decide +kernel
theorem dX9_keep_31 : decode cX9_keep 31 = .ok (.bastore, 1) := by decide +kernel
theorem dX9_keep_32 : decode cX9_keep 32 = .ok (.iconst 1, 1) := by decide +kernel
theorem dX9_keep_33 : decode cX9_keep 33 = .ok (.ireturn, 1) := by decide +kernel
set_option maxRecDepth 20000 in
theorem ggX9_back_X9_isOutside : GoodIn wsX9_back wsX9_isOutside := goodIn_r _ [11] (by decide +kernel) (by decide +kernel)
set_option maxRecDepth 20000 in
theorem gX9_back_X9_isOutside : GoodIn wsX9_back (va_wsS RX9 75 yX9_isOutside wsX9_isOutside) := goodIn_app (goodIn_of _ (by decide +kernel)) ggX9_back_X9_isOutside
set_option maxRecDepth 20000 in
theorem ggX9_back_X8_become : GoodIn wsX9_back wsX8_become := goodIn_r _ [16, 17, 18, 19, 20, 21, 22, 23, 24, 25, 26, 27, 28, 29, 30, 31, 32, 48, 49, 50, 51, 52, 53] (by decide +kernel) (by decide +kernel)
set_option maxRecDepth 20000 in
theorem gX9_back_X8_become : GoodIn wsX9_back (wsV RX9 193 RX8 yX8_become wsX8_become) := goodIn_app (goodIn_of _ (by decide +kernel)) ggX9_back_X8_become
theorem dX9_back_0 : decode cX9_back 0 = .ok (.iload_n 1, 1) := by decide +kernel
theorem dX9_back_1 : decode cX9_back 1 = .ok (.iconst 0, 1) := by decide +kernel
theorem dX9_back_2 : decode cX9_back 2 = .ok (.iconst 1, 1) := by decide +kernel
theorem dX9_back_3 : decode cX9_back 3 = .ok (.invokestatic 75, 3) := by decide +kernel
theorem dX9_back_6 : decode cX9_back 6 = .ok (.ifCond .eq 6, 3) := by decide +kernel
theorem dX9_back_9 : decode cX9_back 9 = .ok (.ldc 79, 2) := by decide +kernel
theorem dX9_back_11 : decode cX9_back 11 = .ok (.ireturn, 1) := by decide +kernel
theorem dX9_back_12 : decode cX9_back 12 = .ok (.aload_n 0, 1) := by decide +kernel
theorem dX9_back_13 : decode cX9_back 13 = .ok (.getfield 47, 3) := by decide +kernel
theorem dX9_back_16 : decode cX9_back 16 = .ok (.iload_n 1, 1) := by decide +kernel
theorem dX9_back_17 : decode cX9_back 17 = .ok (.baload, 1) := by decide +kernel
theorem dX9_back_18 : decode cX9_back 18 = .ok (.ifCond .ne 6, 3) := by decide +kernel
theorem dX9_back_21 : decode cX9_back 21 = .ok (.ldc 88, 2) := by decide +kernel
theorem dX9_back_23 : decode cX9_back 23 = .ok (.ireturn, 1) := by decide +kernel
theorem dX9_back_24 : decode cX9_back 24 = .ok (.aload_n 0, 1) := by decide +kernel
theorem dX9_back_25 : decode cX9_back 25 = .ok (.getfield 29, 3) := by decide +kernel
theorem dX9_back_28 : decode cX9_back 28 = .ok (.aload_n 0, 1) := by decide +kernel
theorem dX9_back_29 : decode cX9_back 29 = .ok (.getfield 43, 3) := by decide +kernel
theorem dX9_back_32 : decode cX9_back 32 = .ok (.iload_n 1, 1) := by decide +kernel
theorem dX9_back_33 : decode cX9_back 33 = .ok (.aaload, 1) := by decide +kernel
theorem dX9_back_34 : decode cX9_back 34 = .ok (.invokevirtual 193, 3) := by decide +kernel
theorem dX9_back_37 : decode cX9_back 37 = .ok (.aload_n 0, 1) := by decide +kernel
theorem dX9_back_38 : decode cX9_back 38 = .ok (.getfield 39, 3) := by decide +kernel
theorem dX9_back_41 : decode cX9_back 41 = .ok (.iconst 0, 1) := by decide +kernel
theorem dX9_back_42 : decode cX9_back 42 = .ok (.putfield 190, 3) := by decide +kernel
theorem dX9_back_45 : decode cX9_back 45 = .ok (.iconst 1, 1) := by decide +kernel
theorem dX9_back_46 : decode cX9_back 46 = .ok (.ireturn, 1) := by decide +kernel
set_option maxRecDepth 20000 in
theorem ggX9_told_X9_isNoPhase : GoodIn wsX9_told wsX9_isNoPhase := goodIn_r _ [9, 10, 11, 8, 12] (by decide +kernel) (by decide +kernel)
set_option maxRecDepth 20000 in
theorem gX9_told_X9_isNoPhase : GoodIn wsX9_told (va_wsS RX9 125 yX9_isNoPhase wsX9_isNoPhase) := goodIn_app (goodIn_of _ (by decide +kernel)) ggX9_told_X9_isNoPhase
set_option maxRecDepth 20000 in
theorem ggX9_told_X9_isOutside : GoodIn wsX9_told wsX9_isOutside := goodIn_r _ [12] (by decide +kernel) (by decide +kernel)
set_option maxRecDepth 20000 in
theorem gX9_told_X9_isOutside : GoodIn wsX9_told (va_wsS RX9 75 yX9_isOutside wsX9_isOutside) := goodIn_app (goodIn_of _ (by decide +kernel)) ggX9_told_X9_isOutside
set_option maxRecDepth 20000 in
theorem ggX9_told_X5_normOf : GoodIn wsX9_told wsX5_normOf := goodIn_r _ [17, 18, 19, 20, 21, 16, 22, 23, 24, 25, 26, 27, 28, 29, 30, 31, 32, 33, 34, 35, 36, 37, 38, 39, 40, 41, 42, 43, 44, 45, 46, 47, 48, 49, 50, 51, 52, 53, 54, 81, 82, 83, 84, 85, 86, 87, 88, 89, 90] (by decide +kernel) (by decide +kernel)
set_option maxRecDepth 20000 in
theorem gX9_told_X5_normOf : GoodIn wsX9_told (wsV RX9 199 RX5 yX5_normOf wsX5_normOf) := goodIn_app (goodIn_of _ (by decide +kernel)) ggX9_told_X5_normOf
set_option maxRecDepth 20000 in
theorem ggX9_told_X1_tell : GoodIn wsX9_told wsX1_tell := goodIn_r _ [58, 33, 59, 31, 32, 88, 89, 90] (by decide +kernel) (by decide +kernel)
set_option maxRecDepth 20000 in
theorem gX9_told_X1_tell : GoodIn wsX9_told (wsV RX9 203 RX1 yX1_tell wsX1_tell) := goodIn_app (goodIn_of _ (by decide +kernel)) ggX9_told_X1_tell
set_option maxRecDepth 20000 in
theorem ggX9_told_X4_tell : GoodIn wsX9_told wsX4_tell := goodIn_r _ [64, 65, 66, 67, 56, 57, 29, 58, 33, 59, 31, 32, 86, 87, 88, 89, 90] (by decide +kernel) (by decide +kernel)
set_option maxRecDepth 20000 in
theorem gX9_told_X4_tell : GoodIn wsX9_told (wsV RX9 206 RX4 yX4_tell wsX4_tell) := goodIn_app (goodIn_of _ (by decide +kernel)) ggX9_told_X4_tell
theorem dX9_told_0 : decode cX9_told 0 = .ok (.iload_n 1, 1) := by decide +kernel
theorem dX9_told_1 : decode cX9_told 1 = .ok (.invokestatic 125, 3) := by decide +kernel
theorem dX9_told_4 : decode cX9_told 4 = .ok (.ifCond .eq 7, 3) := by decide +kernel
theorem dX9_told_7 : decode cX9_told 7 = .ok (.ldc2_w 195, 3) := by decide +kernel
theorem dX9_told_10 : decode cX9_told 10 = .ok (.lreturn, 1) := by decide +kernel
theorem dX9_told_11 : decode cX9_told 11 = .ok (.iload_n 2, 1) := by decide +kernel
theorem dX9_told_12 : decode cX9_told 12 = .ok (.iconst 0, 1) := by decide +kernel
theorem dX9_told_13 : decode cX9_told 13 = .ok (.iconst 2, 1) := by decide +kernel
theorem dX9_told_14 : decode cX9_told 14 = .ok (.invokestatic 75, 3) := by decide +kernel
theorem dX9_told_17 : decode cX9_told 17 = .ok (.ifCond .ne 12, 3) := by decide +kernel
theorem dX9_told_20 : decode cX9_told 20 = .ok (.iload_n 3, 1) := by decide +kernel
theorem dX9_told_21 : decode cX9_told 21 = .ok (.iconst 0, 1) := by decide +kernel
theorem dX9_told_22 : decode cX9_told 22 = .ok (.iconst 1, 1) := by decide +kernel
theorem dX9_told_23 : decode cX9_told 23 = .ok (.invokestatic 75, 3) := by decide +kernel
theorem dX9_told_26 : decode cX9_told 26 = .ok (.ifCond .eq 7, 3) := by decide +kernel
theorem dX9_told_29 : decode cX9_told 29 = .ok (.ldc2_w 197, 3) := by decide +kernel
theorem dX9_told_32 : decode cX9_told 32 = .ok (.lreturn, 1) := by decide +kernel
theorem dX9_told_33 : decode cX9_told 33 = .ok (.aload_n 0, 1) := by decide +kernel
theorem dX9_told_34 : decode cX9_told 34 = .ok (.getfield 29, 3) := by decide +kernel
theorem dX9_told_37 : decode cX9_told 37 = .ok (.getfield 135, 3) := by decide +kernel
theorem dX9_told_40 : decode cX9_told 40 = .ok (.iload_n 1, 1) := by decide +kernel
theorem dX9_told_41 : decode cX9_told 41 = .ok (.aaload, 1) := by decide +kernel
theorem dX9_told_42 : decode cX9_told 42 = .ok (.astore 4, 2) := by decide +kernel
theorem dX9_told_44 : decode cX9_told 44 = .ok (.iload_n 2, 1) := by decide +kernel
theorem dX9_told_45 : decode cX9_told 45 = .ok (.iconst 2, 1) := by decide +kernel
theorem dX9_told_46 : decode cX9_told 46 = .ok (.if_icmp .ne 17, 3) := by decide +kernel
theorem dX9_told_49 : decode cX9_told 49 = .ok (.aload_n 0, 1) := by decide +kernel
theorem dX9_told_50 : decode cX9_told 50 = .ok (.getfield 54, 3) := by decide +kernel
theorem dX9_told_53 : decode cX9_told 53 = .ok (.aload 4, 2) := by decide +kernel
theorem dX9_told_55 : decode cX9_told 55 = .ok (.invokevirtual 199, 3) := by decide +kernel
theorem dX9_told_58 : decode cX9_told 58 = .ok (.iload_n 3, 1) := by decide +kernel
theorem dX9_told_59 : decode cX9_told 59 = .ok (.invokevirtual 203, 3) := by decide +kernel
theorem dX9_told_62 : decode cX9_told 62 = .ok (.lreturn, 1) := by decide +kernel
theorem dX9_told_63 : decode cX9_told 63 = .ok (.aload 4, 2) := by decide +kernel
theorem dX9_told_65 : decode cX9_told 65 = .ok (.iload_n 2, 1) := by decide +kernel
theorem dX9_told_66 : decode cX9_told 66 = .ok (.iload_n 3, 1) := by decide +kernel
theorem dX9_told_67 : decode cX9_told 67 = .ok (.invokevirtual 206, 3) := by decide +kernel
theorem dX9_told_70 : decode cX9_told 70 = .ok (.lreturn, 1) := by decide +kernel
set_option maxRecDepth 20000 in
theorem ggX9_fold_X9_isOutside : GoodIn wsX9_fold wsX9_isOutside := goodIn_r _ [8] (by decide +kernel) (by decide +kernel)
set_option maxRecDepth 20000 in
theorem gX9_fold_X9_isOutside : GoodIn wsX9_fold (va_wsS RX9 75 yX9_isOutside wsX9_isOutside) := goodIn_app (goodIn_of _ (by decide +kernel)) ggX9_fold_X9_isOutside
set_option maxRecDepth 20000 in
theorem ggX9_fold_X5_foldOf : GoodIn wsX9_fold wsX5_foldOf := goodIn_r _ [13, 14, 15, 16, 17, 18, 19, 20, 21, 22, 23, 24, 25, 26, 27, 28, 29, 30, 31, 32, 33, 34, 35, 36, 37, 38, 39, 40, 41, 42, 43, 44, 45, 46, 47, 48, 49, 50, 51, 52, 53, 54, 55, 56, 57, 58, 59, 12, 60, 61, 62, 63, 64, 65, 66, 67, 68, 69, 70, 71, 72, 73, 74, 75, 76, 77, 78, 79, 80, 81, 82, 83, 84, 85, 86, 87, 88, 89, 116, 117, 118, 119, 120, 121, 122, 123, 124, 125, 126] (by decide +kernel) (by decide +kernel)
set_option maxRecDepth 20000 in
theorem gX9_fold_X5_foldOf : GoodIn wsX9_fold (wsV RX9 209 RX5 yX5_foldOf wsX5_foldOf) := goodIn_app (goodIn_of _ (by decide +kernel)) ggX9_fold_X5_foldOf
set_option maxRecDepth 20000 in
theorem ggX9_fold_X4_isOver : GoodIn wsX9_fold wsX4_isOver := goodIn_r _ [93, 21, 94, 22, 122, 123, 124, 125, 126] (by decide +kernel) (by decide +kernel)
set_option maxRecDepth 20000 in
theorem gX9_fold_X4_isOver : GoodIn wsX9_fold (wsV RX9 213 RX4 yX4_isOver wsX4_isOver) := goodIn_app (goodIn_of _ (by decide +kernel)) ggX9_fold_X4_isOver
set_option maxRecDepth 20000 in
theorem ggX9_fold_X4_tell : GoodIn wsX9_fold wsX4_tell := goodIn_r _ [98, 21, 22, 99, 100, 101, 26, 102, 30, 103, 28, 29, 122, 123, 124, 125, 126] (by decide +kernel) (by decide +kernel)
set_option maxRecDepth 20000 in
theorem gX9_fold_X4_tell : GoodIn wsX9_fold (wsV RX9 206 RX4 yX4_tell wsX4_tell) := goodIn_app (goodIn_of _ (by decide +kernel)) ggX9_fold_X4_tell
theorem dX9_fold_0 : decode cX9_fold 0 = .ok (.iload_n 1, 1) := by decide +kernel
theorem dX9_fold_1 : decode cX9_fold 1 = .ok (.iconst 0, 1) := by decide +kernel
theorem dX9_fold_2 : decode cX9_fold 2 = .ok (.iconst 3, 1) := by decide +kernel
theorem dX9_fold_3 : decode cX9_fold 3 = .ok (.invokestatic 75, 3) := by decide +kernel
theorem dX9_fold_6 : decode cX9_fold 6 = .ok (.ifCond .ne 21, 3) := by decide +kernel
theorem dX9_fold_9 : decode cX9_fold 9 = .ok (.iload_n 2, 1) := by decide +kernel
theorem dX9_fold_10 : decode cX9_fold 10 = .ok (.iconst 0, 1) := by decide +kernel
theorem dX9_fold_11 : decode cX9_fold 11 = .ok (.iconst 1, 1) := by decide +kernel
theorem dX9_fold_12 : decode cX9_fold 12 = .ok (.invokestatic 75, 3) := by decide +kernel
theorem dX9_fold_15 : decode cX9_fold 15 = .ok (.ifCond .ne 12, 3) := by decide +kernel
theorem dX9_fold_18 : decode cX9_fold 18 = .ok (.iload_n 3, 1) := by decide +kernel
theorem dX9_fold_19 : decode cX9_fold 19 = .ok (.iconst 0, 1) := by decide +kernel
theorem dX9_fold_20 : decode cX9_fold 20 = .ok (.iconst 1, 1) := by decide +kernel
theorem dX9_fold_21 : decode cX9_fold 21 = .ok (.invokestatic 75, 3) := by decide +kernel
theorem dX9_fold_24 : decode cX9_fold 24 = .ok (.ifCond .eq 7, 3) := by decide +kernel
theorem dX9_fold_27 : decode cX9_fold 27 = .ok (.ldc2_w 197, 3) := by decide +kernel
theorem dX9_fold_30 : decode cX9_fold 30 = .ok (.lreturn, 1) := by decide +kernel
theorem dX9_fold_31 : decode cX9_fold 31 = .ok (.aload_n 0, 1) := by decide +kernel
theorem dX9_fold_32 : decode cX9_fold 32 = .ok (.getfield 54, 3) := by decide +kernel
theorem dX9_fold_35 : decode cX9_fold 35 = .ok (.aload_n 0, 1) := by decide +kernel
theorem dX9_fold_36 : decode cX9_fold 36 = .ok (.getfield 29, 3) := by decide +kernel
theorem dX9_fold_39 : decode cX9_fold 39 = .ok (.iload_n 1, 1) := by decide +kernel
theorem dX9_fold_40 : decode cX9_fold 40 = .ok (.invokevirtual 209, 3) := by decide +kernel
theorem dX9_fold_43 : decode cX9_fold 43 = .ok (.astore 4, 2) := by decide +kernel
theorem dX9_fold_45 : decode cX9_fold 45 = .ok (.aload 4, 2) := by decide +kernel
theorem dX9_fold_47 : decode cX9_fold 47 = .ok (.invokevirtual 213, 3) := by decide +kernel
theorem dX9_fold_50 : decode cX9_fold 50 = .ok (.ifCond .eq 9, 3) := by decide +kernel
theorem dX9_fold_53 : decode cX9_fold 53 = .ok (.ldc2_w 217, 3) := by decide +kernel
theorem dX9_fold_56 : decode cX9_fold 56 = .ok (.goto 10, 3) := by decide +kernel
theorem dX9_fold_59 : decode cX9_fold 59 = .ok (.aload 4, 2) := by decide +kernel
theorem dX9_fold_61 : decode cX9_fold 61 = .ok (.iload_n 2, 1) := by decide +kernel
theorem dX9_fold_62 : decode cX9_fold 62 = .ok (.iload_n 3, 1) := by decide +kernel
theorem dX9_fold_63 : decode cX9_fold 63 = .ok (.invokevirtual 206, 3) := by decide +kernel
theorem dX9_fold_66 : decode cX9_fold 66 = .ok (.lreturn, 1) := by decide +kernel
set_option maxRecDepth 20000 in
theorem ggX9_most_X5_greatestOf : GoodIn wsX9_most wsX5_greatestOf := goodIn_r _ [9, 10, 11, 12, 13, 14, 15, 16, 17, 8, 18, 19, 20, 21, 22, 23, 24, 25, 26, 27, 28, 29, 30, 31, 32, 33, 34, 35, 36, 37, 38, 39, 40, 41, 42, 43, 44, 45, 46, 47, 48, 49, 50, 51, 52, 53, 54, 125, 126, 127, 128, 129, 130, 131, 132, 133, 134, 135] (by decide +kernel) (by decide +kernel)
set_option maxRecDepth 20000 in
theorem gX9_most_X5_greatestOf : GoodIn wsX9_most (wsV RX9 219 RX5 yX5_greatestOf wsX5_greatestOf) := goodIn_app (goodIn_of _ (by decide +kernel)) ggX9_most_X5_greatestOf
set_option maxRecDepth 20000 in
theorem ggX9_most_X5_areNormsAlike : GoodIn wsX9_most wsX5_areNormsAlike := goodIn_r _ [58, 10, 11, 12, 13, 14, 15, 16, 17, 8, 18, 19, 20, 21, 22, 23, 24, 25, 26, 27, 28, 29, 30, 31, 32, 33, 34, 35, 36, 37, 38, 39, 40, 41, 42, 43, 44, 45, 46, 47, 48, 49, 50, 59, 60, 61, 62, 63, 64, 65, 125, 126, 127, 128, 129, 130, 131, 132, 133, 134, 135] (by decide +kernel) (by decide +kernel)
set_option maxRecDepth 20000 in
theorem gX9_most_X5_areNormsAlike : GoodIn wsX9_most (wsV RX9 223 RX5 yX5_areNormsAlike wsX5_areNormsAlike) := goodIn_app (goodIn_of _ (by decide +kernel)) ggX9_most_X5_areNormsAlike
set_option maxRecDepth 20000 in
theorem ggX9_most_X5_foldOf : GoodIn wsX9_most wsX5_foldOf := goodIn_r _ [69, 70, 10, 71, 72, 73, 74, 75, 76, 77, 78, 39, 40, 25, 41, 27, 28, 29, 42, 43, 44, 45, 46, 34, 35, 36, 37, 79, 80, 81, 82, 83, 48, 49, 50, 38, 84, 85, 86, 87, 88, 89, 90, 91, 92, 93, 94, 8, 95, 11, 13, 12, 19, 15, 16, 17, 18, 20, 21, 22, 23, 24, 26, 30, 31, 32, 33, 47, 96, 51, 52, 53, 54, 97, 98, 99, 100, 101, 126, 127, 128, 129, 130, 125, 134, 135, 131, 132, 133] (by decide +kernel) (by decide +kernel)
set_option maxRecDepth 20000 in
theorem gX9_most_X5_foldOf : GoodIn wsX9_most (wsV RX9 209 RX5 yX5_foldOf wsX5_foldOf) := goodIn_app (goodIn_of _ (by decide +kernel)) ggX9_most_X5_foldOf
set_option maxRecDepth 20000 in
theorem ggX9_most_X4_isOver : GoodIn wsX9_most wsX4_isOver := goodIn_r _ [105, 76, 106, 77, 134, 135, 131, 132, 133] (by decide +kernel) (by decide +kernel)
set_option maxRecDepth 20000 in
theorem gX9_most_X4_isOver : GoodIn wsX9_most (wsV RX9 213 RX4 yX4_isOver wsX4_isOver) := goodIn_app (goodIn_of _ (by decide +kernel)) ggX9_most_X4_isOver
set_option maxRecDepth 20000 in
theorem ggX9_most_X4_isNought : GoodIn wsX9_most wsX4_isNought := goodIn_r _ [110, 76, 111, 77, 134, 135, 131, 132, 133] (by decide +kernel) (by decide +kernel)
set_option maxRecDepth 20000 in
theorem gX9_most_X4_isNought : GoodIn wsX9_most (wsV RX9 227 RX4 yX4_isNought wsX4_isNought) := goodIn_app (goodIn_of _ (by decide +kernel)) ggX9_most_X4_isNought
set_option maxRecDepth 20000 in
theorem ggX9_most_X9_asBit : GoodIn wsX9_most wsX9_asBit := goodIn_r _ [65] (by decide +kernel) (by decide +kernel)
set_option maxRecDepth 20000 in
theorem gX9_most_X9_asBit : GoodIn wsX9_most (va_wsS RX9 230 yX9_asBit wsX9_asBit) := goodIn_app (goodIn_of _ (by decide +kernel)) ggX9_most_X9_asBit
theorem dX9_most_0 : decode cX9_most 0 = .ok (.iload_n 1, 1) := by decide +kernel
theorem dX9_most_1 : decode cX9_most 1 = .ok (.tableswitch 84 0 2 #[27, 39, 51], 27) := by decide +kernel
theorem dX9_most_28 : decode cX9_most 28 = .ok (.aload_n 0, 1) := by decide +kernel
theorem dX9_most_29 : decode cX9_most 29 = .ok (.getfield 54, 3) := by decide +kernel
theorem dX9_most_32 : decode cX9_most 32 = .ok (.aload_n 0, 1) := by decide +kernel
theorem dX9_most_33 : decode cX9_most 33 = .ok (.getfield 29, 3) := by decide +kernel
theorem dX9_most_36 : decode cX9_most 36 = .ok (.invokevirtual 219, 3) := by decide +kernel
theorem dX9_most_39 : decode cX9_most 39 = .ok (.ireturn, 1) := by decide +kernel
theorem dX9_most_40 : decode cX9_most 40 = .ok (.aload_n 0, 1) := by decide +kernel
theorem dX9_most_41 : decode cX9_most 41 = .ok (.getfield 54, 3) := by decide +kernel
theorem dX9_most_44 : decode cX9_most 44 = .ok (.aload_n 0, 1) := by decide +kernel
theorem dX9_most_45 : decode cX9_most 45 = .ok (.getfield 29, 3) := by decide +kernel
theorem dX9_most_48 : decode cX9_most 48 = .ok (.invokevirtual 223, 3) := by decide +kernel
theorem dX9_most_51 : decode cX9_most 51 = .ok (.ireturn, 1) := by decide +kernel
theorem dX9_most_52 : decode cX9_most 52 = .ok (.aload_n 0, 1) := by decide +kernel
theorem dX9_most_53 : decode cX9_most 53 = .ok (.getfield 54, 3) := by decide +kernel
theorem dX9_most_56 : decode cX9_most 56 = .ok (.aload_n 0, 1) := by decide +kernel
theorem dX9_most_57 : decode cX9_most 57 = .ok (.getfield 29, 3) := by decide +kernel
theorem dX9_most_60 : decode cX9_most 60 = .ok (.iconst 0, 1) := by decide +kernel
theorem dX9_most_61 : decode cX9_most 61 = .ok (.invokevirtual 209, 3) := by decide +kernel
theorem dX9_most_64 : decode cX9_most 64 = .ok (.astore_n 2, 1) := by decide +kernel
theorem dX9_most_65 : decode cX9_most 65 = .ok (.aload_n 2, 1) := by decide +kernel
theorem dX9_most_66 : decode cX9_most 66 = .ok (.invokevirtual 213, 3) := by decide +kernel
theorem dX9_most_69 : decode cX9_most 69 = .ok (.ifCond .eq 8, 3) := by decide +kernel
theorem dX9_most_72 : decode cX9_most 72 = .ok (.ldc 226, 2) := by decide +kernel
theorem dX9_most_74 : decode cX9_most 74 = .ok (.goto 10, 3) := by decide +kernel
theorem dX9_most_77 : decode cX9_most 77 = .ok (.aload_n 2, 1) := by decide +kernel
theorem dX9_most_78 : decode cX9_most 78 = .ok (.invokevirtual 227, 3) := by decide +kernel
theorem dX9_most_81 : decode cX9_most 81 = .ok (.invokestatic 230, 3) := by decide +kernel
theorem dX9_most_84 : decode cX9_most 84 = .ok (.ireturn, 1) := by decide +kernel
theorem dX9_most_85 : decode cX9_most 85 = .ok (.ldc 79, 2) := by decide +kernel
theorem dX9_most_87 : decode cX9_most 87 = .ok (.ireturn, 1) := by decide +kernel
set_option maxRecDepth 20000 in
theorem ggX9_current_X9_isNoPhase : GoodIn wsX9_current wsX9_isNoPhase := goodIn_r _ [6, 7, 8, 5, 9] (by decide +kernel) (by decide +kernel)
set_option maxRecDepth 20000 in
theorem gX9_current_X9_isNoPhase : GoodIn wsX9_current (va_wsS RX9 125 yX9_isNoPhase wsX9_isNoPhase) := goodIn_app (goodIn_of _ (by decide +kernel)) ggX9_current_X9_isNoPhase
set_option maxRecDepth 20000 in
theorem ggX9_current_X9_isOutside : GoodIn wsX9_current wsX9_isOutside := goodIn_r _ [9] (by decide +kernel) (by decide +kernel)
set_option maxRecDepth 20000 in
theorem gX9_current_X9_isOutside : GoodIn wsX9_current (va_wsS RX9 75 yX9_isOutside wsX9_isOutside) := goodIn_app (goodIn_of _ (by decide +kernel)) ggX9_current_X9_isOutside
set_option maxRecDepth 20000 in
theorem ggX9_current_X9_askFault : GoodIn wsX9_current wsX9_askFault := goodIn_r _ [13, 14, 15, 2, 16, 17, 18, 19, 20, 5, 21, 22, 7, 8, 9, 23, 24, 25, 26, 27, 28, 29, 30, 31, 32, 33, 34, 35, 36, 37, 38, 39, 40, 41, 42, 43, 44, 45, 46, 47, 48, 49, 74, 75, 76, 77, 78, 79, 80, 81, 82, 83, 84, 85, 86, 87, 88, 89, 90, 91, 92, 93, 94] (by decide +kernel) (by decide +kernel)
set_option maxRecDepth 20000 in
theorem gX9_current_X9_askFault : GoodIn wsX9_current (wsV RX9 173 RX9 yX9_askFault wsX9_askFault) := goodIn_app (goodIn_of _ (by decide +kernel)) ggX9_current_X9_askFault
set_option maxRecDepth 20000 in
theorem ggX9_current_X0_tell : GoodIn wsX9_current wsX0_tell := goodIn_r _ [53, 35, 54, 55, 56, 32, 57, 58, 59, 60, 61, 47, 48, 49, 62, 63, 64, 65, 66, 67, 68, 69, 70, 71, 72, 73, 91, 92, 93, 94] (by decide +kernel) (by decide +kernel)
set_option maxRecDepth 20000 in
theorem gX9_current_X0_tell : GoodIn wsX9_current (wsV RX9 234 RX0 yX0_tell wsX0_tell) := goodIn_app (goodIn_of _ (by decide +kernel)) ggX9_current_X0_tell
theorem dX9_current_0 : decode cX9_current 0 = .ok (.iload 4, 2) := by decide +kernel
theorem dX9_current_2 : decode cX9_current 2 = .ok (.invokestatic 125, 3) := by decide +kernel
theorem dX9_current_5 : decode cX9_current 5 = .ok (.ifCond .eq 7, 3) := by decide +kernel
theorem dX9_current_8 : decode cX9_current 8 = .ok (.ldc2_w 195, 3) := by decide +kernel
theorem dX9_current_11 : decode cX9_current 11 = .ok (.lreturn, 1) := by decide +kernel
theorem dX9_current_12 : decode cX9_current 12 = .ok (.aload_n 0, 1) := by decide +kernel
theorem dX9_current_13 : decode cX9_current 13 = .ok (.iload_n 1, 1) := by decide +kernel
theorem dX9_current_14 : decode cX9_current 14 = .ok (.iload_n 2, 1) := by decide +kernel
theorem dX9_current_15 : decode cX9_current 15 = .ok (.iload_n 3, 1) := by decide +kernel
theorem dX9_current_16 : decode cX9_current 16 = .ok (.iload 5, 2) := by decide +kernel
theorem dX9_current_18 : decode cX9_current 18 = .ok (.iconst 0, 1) := by decide +kernel
theorem dX9_current_19 : decode cX9_current 19 = .ok (.iconst 2, 1) := by decide +kernel
theorem dX9_current_20 : decode cX9_current 20 = .ok (.invokestatic 75, 3) := by decide +kernel
theorem dX9_current_23 : decode cX9_current 23 = .ok (.ifCond .ne 13, 3) := by decide +kernel
theorem dX9_current_26 : decode cX9_current 26 = .ok (.iload 6, 2) := by decide +kernel
theorem dX9_current_28 : decode cX9_current 28 = .ok (.iconst 0, 1) := by decide +kernel
theorem dX9_current_29 : decode cX9_current 29 = .ok (.iconst 1, 1) := by decide +kernel
theorem dX9_current_30 : decode cX9_current 30 = .ok (.invokestatic 75, 3) := by decide +kernel
theorem dX9_current_33 : decode cX9_current 33 = .ok (.ifCond .eq 7, 3) := by decide +kernel
theorem dX9_current_36 : decode cX9_current 36 = .ok (.iconst 1, 1) := by decide +kernel
theorem dX9_current_37 : decode cX9_current 37 = .ok (.goto 4, 3) := by decide +kernel
theorem dX9_current_40 : decode cX9_current 40 = .ok (.iconst 0, 1) := by decide +kernel
theorem dX9_current_41 : decode cX9_current 41 = .ok (.invokevirtual 173, 3) := by decide +kernel
theorem dX9_current_44 : decode cX9_current 44 = .ok (.istore 7, 2) := by decide +kernel
theorem dX9_current_46 : decode cX9_current 46 = .ok (.iload 7, 2) := by decide +kernel
theorem dX9_current_48 : decode cX9_current 48 = .ok (.ifCond .ne 19, 3) := by decide +kernel
theorem dX9_current_51 : decode cX9_current 51 = .ok (.aload_n 0, 1) := by decide +kernel
theorem dX9_current_52 : decode cX9_current 52 = .ok (.getfield 61, 3) := by decide +kernel
theorem dX9_current_55 : decode cX9_current 55 = .ok (.iload 4, 2) := by decide +kernel
theorem dX9_current_57 : decode cX9_current 57 = .ok (.iload 5, 2) := by decide +kernel
theorem dX9_current_59 : decode cX9_current 59 = .ok (.iload 6, 2) := by decide +kernel
theorem dX9_current_61 : decode cX9_current 61 = .ok (.invokevirtual 234, 3) := by decide +kernel
theorem dX9_current_64 : decode cX9_current 64 = .ok (.goto 6, 3) := by decide +kernel
theorem dX9_current_67 : decode cX9_current 67 = .ok (.iload 7, 2) := by decide +kernel
theorem dX9_current_69 : decode cX9_current 69 = .ok (.i2l, 1) := by decide +kernel
theorem dX9_current_70 : decode cX9_current 70 = .ok (.lreturn, 1) := by decide +kernel
set_option maxRecDepth 20000 in
theorem ggX9_voltage_X9_isNoBus : GoodIn wsX9_voltage wsX9_isNoBus := goodIn_r _ [9, 3, 10, 11, 12, 8, 13, 83, 84, 85, 86, 87, 88, 89, 90, 91, 92, 93, 94, 95, 96, 97, 98, 99] (by decide +kernel) (by decide +kernel)
set_option maxRecDepth 20000 in
theorem gX9_voltage_X9_isNoBus : GoodIn wsX9_voltage (wsV RX9 103 RX9 yX9_isNoBus wsX9_isNoBus) := goodIn_app (goodIn_of _ (by decide +kernel)) ggX9_voltage_X9_isNoBus
set_option maxRecDepth 20000 in
theorem ggX9_voltage_X9_isNoPhase : GoodIn wsX9_voltage wsX9_isNoPhase := goodIn_r _ [16, 11, 12, 8, 13] (by decide +kernel) (by decide +kernel)
set_option maxRecDepth 20000 in
theorem gX9_voltage_X9_isNoPhase : GoodIn wsX9_voltage (va_wsS RX9 125 yX9_isNoPhase wsX9_isNoPhase) := goodIn_app (goodIn_of _ (by decide +kernel)) ggX9_voltage_X9_isNoPhase
set_option maxRecDepth 20000 in
theorem ggX9_voltage_X9_isOutside : GoodIn wsX9_voltage wsX9_isOutside := goodIn_r _ [13] (by decide +kernel) (by decide +kernel)
set_option maxRecDepth 20000 in
theorem gX9_voltage_X9_isOutside : GoodIn wsX9_voltage (va_wsS RX9 75 yX9_isOutside wsX9_isOutside) := goodIn_app (goodIn_of _ (by decide +kernel)) ggX9_voltage_X9_isOutside
set_option maxRecDepth 20000 in
theorem ggX9_voltage_X9_askFault : GoodIn wsX9_voltage wsX9_askFault := goodIn_r _ [20, 21, 22, 4, 3, 23, 5, 6, 7, 8, 9, 10, 11, 12, 13, 24, 25, 26, 27, 28, 29, 30, 31, 32, 33, 34, 35, 36, 37, 38, 39, 40, 41, 42, 43, 44, 45, 46, 47, 48, 49, 50, 83, 84, 85, 86, 87, 88, 89, 90, 91, 92, 93, 94, 95, 96, 97, 98, 99, 100, 101, 102, 103] (by decide +kernel) (by decide +kernel)
set_option maxRecDepth 20000 in
theorem gX9_voltage_X9_askFault : GoodIn wsX9_voltage (wsV RX9 173 RX9 yX9_askFault wsX9_askFault) := goodIn_app (goodIn_of _ (by decide +kernel)) ggX9_voltage_X9_askFault
set_option maxRecDepth 20000 in
theorem ggX9_voltage_X2_meetingOf : GoodIn wsX9_voltage wsX2_meetingOf := goodIn_r _ [54, 43, 95, 96, 97, 98, 99] (by decide +kernel) (by decide +kernel)
set_option maxRecDepth 20000 in
theorem gX9_voltage_X2_meetingOf : GoodIn wsX9_voltage (wsV RX9 237 RX2 yX2_meetingOf wsX2_meetingOf) := goodIn_app (goodIn_of _ (by decide +kernel)) ggX9_voltage_X2_meetingOf
set_option maxRecDepth 20000 in
theorem ggX9_voltage_X0_becomeVoltage : GoodIn wsX9_voltage wsX0_becomeVoltage := goodIn_r _ [58, 48, 35, 36, 49, 50, 37, 38, 39, 40, 41, 42, 43, 44, 45, 46, 33, 47, 100, 101, 102, 103, 95, 96, 97, 98, 99] (by decide +kernel) (by decide +kernel)
set_option maxRecDepth 20000 in
theorem gX9_voltage_X0_becomeVoltage : GoodIn wsX9_voltage (wsV RX9 240 RX0 yX0_becomeVoltage wsX0_becomeVoltage) := goodIn_app (goodIn_of _ (by decide +kernel)) ggX9_voltage_X0_becomeVoltage
set_option maxRecDepth 20000 in
theorem ggX9_voltage_X0_tell : GoodIn wsX9_voltage wsX0_tell := goodIn_r _ [62, 36, 63, 64, 65, 33, 66, 67, 68, 69, 70, 48, 49, 50, 71, 72, 73, 74, 75, 76, 77, 78, 79, 80, 81, 82, 100, 101, 102, 103] (by decide +kernel) (by decide +kernel)
set_option maxRecDepth 20000 in
theorem gX9_voltage_X0_tell : GoodIn wsX9_voltage (wsV RX9 234 RX0 yX0_tell wsX0_tell) := goodIn_app (goodIn_of _ (by decide +kernel)) ggX9_voltage_X0_tell
theorem dX9_voltage_0 : decode cX9_voltage 0 = .ok (.aload_n 0, 1) := by decide +kernel
theorem dX9_voltage_1 : decode cX9_voltage 1 = .ok (.iload 4, 2) := by decide +kernel
theorem dX9_voltage_3 : decode cX9_voltage 3 = .ok (.invokevirtual 103, 3) := by decide +kernel
theorem dX9_voltage_6 : decode cX9_voltage 6 = .ok (.ifCond .ne 11, 3) := by decide +kernel
theorem dX9_voltage_9 : decode cX9_voltage 9 = .ok (.iload 5, 2) := by decide +kernel
theorem dX9_voltage_11 : decode cX9_voltage 11 = .ok (.invokestatic 125, 3) := by decide +kernel
theorem dX9_voltage_14 : decode cX9_voltage 14 = .ok (.ifCond .eq 7, 3) := by decide +kernel
theorem dX9_voltage_17 : decode cX9_voltage 17 = .ok (.ldc2_w 195, 3) := by decide +kernel
theorem dX9_voltage_20 : decode cX9_voltage 20 = .ok (.lreturn, 1) := by decide +kernel
theorem dX9_voltage_21 : decode cX9_voltage 21 = .ok (.aload_n 0, 1) := by decide +kernel
theorem dX9_voltage_22 : decode cX9_voltage 22 = .ok (.iload_n 1, 1) := by decide +kernel
theorem dX9_voltage_23 : decode cX9_voltage 23 = .ok (.iload_n 2, 1) := by decide +kernel
theorem dX9_voltage_24 : decode cX9_voltage 24 = .ok (.iload_n 3, 1) := by decide +kernel
theorem dX9_voltage_25 : decode cX9_voltage 25 = .ok (.iload 6, 2) := by decide +kernel
theorem dX9_voltage_27 : decode cX9_voltage 27 = .ok (.iconst 0, 1) := by decide +kernel
theorem dX9_voltage_28 : decode cX9_voltage 28 = .ok (.iconst 2, 1) := by decide +kernel
theorem dX9_voltage_29 : decode cX9_voltage 29 = .ok (.invokestatic 75, 3) := by decide +kernel
theorem dX9_voltage_32 : decode cX9_voltage 32 = .ok (.ifCond .ne 13, 3) := by decide +kernel
theorem dX9_voltage_35 : decode cX9_voltage 35 = .ok (.iload 7, 2) := by decide +kernel
theorem dX9_voltage_37 : decode cX9_voltage 37 = .ok (.iconst 0, 1) := by decide +kernel
theorem dX9_voltage_38 : decode cX9_voltage 38 = .ok (.iconst 1, 1) := by decide +kernel
theorem dX9_voltage_39 : decode cX9_voltage 39 = .ok (.invokestatic 75, 3) := by decide +kernel
theorem dX9_voltage_42 : decode cX9_voltage 42 = .ok (.ifCond .eq 7, 3) := by decide +kernel
theorem dX9_voltage_45 : decode cX9_voltage 45 = .ok (.iconst 1, 1) := by decide +kernel
theorem dX9_voltage_46 : decode cX9_voltage 46 = .ok (.goto 4, 3) := by decide +kernel
theorem dX9_voltage_49 : decode cX9_voltage 49 = .ok (.iconst 0, 1) := by decide +kernel
theorem dX9_voltage_50 : decode cX9_voltage 50 = .ok (.invokevirtual 173, 3) := by decide +kernel
theorem dX9_voltage_53 : decode cX9_voltage 53 = .ok (.istore 8, 2) := by decide +kernel
theorem dX9_voltage_55 : decode cX9_voltage 55 = .ok (.iload 8, 2) := by decide +kernel
theorem dX9_voltage_57 : decode cX9_voltage 57 = .ok (.ifCond .eq 7, 3) := by decide +kernel
theorem dX9_voltage_60 : decode cX9_voltage 60 = .ok (.iload 8, 2) := by decide +kernel
theorem dX9_voltage_62 : decode cX9_voltage 62 = .ok (.i2l, 1) := by decide +kernel
theorem dX9_voltage_63 : decode cX9_voltage 63 = .ok (.lreturn, 1) := by decide +kernel
theorem dX9_voltage_64 : decode cX9_voltage 64 = .ok (.aload_n 0, 1) := by decide +kernel
theorem dX9_voltage_65 : decode cX9_voltage 65 = .ok (.getfield 65, 3) := by decide +kernel
theorem dX9_voltage_68 : decode cX9_voltage 68 = .ok (.aload_n 0, 1) := by decide +kernel
theorem dX9_voltage_69 : decode cX9_voltage 69 = .ok (.getfield 19, 3) := by decide +kernel
theorem dX9_voltage_72 : decode cX9_voltage 72 = .ok (.aload_n 0, 1) := by decide +kernel
theorem dX9_voltage_73 : decode cX9_voltage 73 = .ok (.getfield 61, 3) := by decide +kernel
theorem dX9_voltage_76 : decode cX9_voltage 76 = .ok (.aload_n 0, 1) := by decide +kernel
theorem dX9_voltage_77 : decode cX9_voltage 77 = .ok (.getfield 19, 3) := by decide +kernel
theorem dX9_voltage_80 : decode cX9_voltage 80 = .ok (.iload 4, 2) := by decide +kernel
theorem dX9_voltage_82 : decode cX9_voltage 82 = .ok (.iload_n 2, 1) := by decide +kernel
theorem dX9_voltage_83 : decode cX9_voltage 83 = .ok (.invokevirtual 237, 3) := by decide +kernel
theorem dX9_voltage_86 : decode cX9_voltage 86 = .ok (.invokevirtual 240, 3) := by decide +kernel
theorem dX9_voltage_89 : decode cX9_voltage 89 = .ok (.aload_n 0, 1) := by decide +kernel
theorem dX9_voltage_90 : decode cX9_voltage 90 = .ok (.getfield 65, 3) := by decide +kernel
theorem dX9_voltage_93 : decode cX9_voltage 93 = .ok (.iload 5, 2) := by decide +kernel
theorem dX9_voltage_95 : decode cX9_voltage 95 = .ok (.iload 6, 2) := by decide +kernel
theorem dX9_voltage_97 : decode cX9_voltage 97 = .ok (.iload 7, 2) := by decide +kernel
theorem dX9_voltage_99 : decode cX9_voltage 99 = .ok (.invokevirtual 234, 3) := by decide +kernel
theorem dX9_voltage_102 : decode cX9_voltage 102 = .ok (.lreturn, 1) := by decide +kernel
set_option maxRecDepth 20000 in
theorem ggX9_sag_X9_isOutside : GoodIn wsX9_sag wsX9_isOutside := goodIn_r _ [9] (by decide +kernel) (by decide +kernel)
set_option maxRecDepth 20000 in
theorem gX9_sag_X9_isOutside : GoodIn wsX9_sag (va_wsS RX9 75 yX9_isOutside wsX9_isOutside) := goodIn_app (goodIn_of _ (by decide +kernel)) ggX9_sag_X9_isOutside
set_option maxRecDepth 20000 in
theorem ggX9_sag_X9_askFault : GoodIn wsX9_sag wsX9_askFault := goodIn_r _ [13, 14, 15, 4, 1, 16, 17, 18, 19, 8, 20, 2, 6, 7, 9, 21, 22, 23, 24, 25, 26, 27, 28, 29, 30, 31, 32, 33, 34, 35, 36, 37, 38, 39, 40, 41, 42, 43, 44, 45, 46, 47, 81, 82, 83, 84, 85, 86, 87, 88, 89, 90, 91, 92, 93, 94, 95, 96, 97, 98, 99, 100, 101] (by decide +kernel) (by decide +kernel)
set_option maxRecDepth 20000 in
theorem gX9_sag_X9_askFault : GoodIn wsX9_sag (wsV RX9 173 RX9 yX9_askFault wsX9_askFault) := goodIn_app (goodIn_of _ (by decide +kernel)) ggX9_sag_X9_askFault
set_option maxRecDepth 20000 in
theorem ggX9_sag_X2_meetingOf : GoodIn wsX9_sag wsX2_meetingOf := goodIn_r _ [51, 40, 93, 94, 95, 96, 97] (by decide +kernel) (by decide +kernel)
set_option maxRecDepth 20000 in
theorem gX9_sag_X2_meetingOf : GoodIn wsX9_sag (wsV RX9 237 RX2 yX2_meetingOf wsX2_meetingOf) := goodIn_app (goodIn_of _ (by decide +kernel)) ggX9_sag_X2_meetingOf
set_option maxRecDepth 20000 in
theorem ggX9_sag_X0_becomeVoltage : GoodIn wsX9_sag wsX0_becomeVoltage := goodIn_r _ [55, 45, 32, 33, 46, 47, 34, 35, 36, 37, 38, 39, 40, 41, 42, 43, 30, 44, 98, 99, 100, 101, 93, 94, 95, 96, 97] (by decide +kernel) (by decide +kernel)
set_option maxRecDepth 20000 in
theorem gX9_sag_X0_becomeVoltage : GoodIn wsX9_sag (wsV RX9 240 RX0 yX0_becomeVoltage wsX0_becomeVoltage) := goodIn_app (goodIn_of _ (by decide +kernel)) ggX9_sag_X0_becomeVoltage
set_option maxRecDepth 20000 in
theorem ggX9_sag_X0_sagsBelow : GoodIn wsX9_sag wsX0_sagsBelow := goodIn_r _ [59, 60, 33, 61, 62, 63, 30, 64, 65, 66, 67, 68, 69, 70, 71, 72, 73, 74, 75, 76, 45, 46, 47, 77, 78, 79, 80, 98, 99, 100, 101] (by decide +kernel) (by decide +kernel)
set_option maxRecDepth 20000 in
theorem gX9_sag_X0_sagsBelow : GoodIn wsX9_sag (wsV RX9 250 RX0 yX0_sagsBelow wsX0_sagsBelow) := goodIn_app (goodIn_of _ (by decide +kernel)) ggX9_sag_X0_sagsBelow
theorem dX9_sag_0 : decode cX9_sag 0 = .ok (.aload_n 0, 1) := by decide +kernel
theorem dX9_sag_1 : decode cX9_sag 1 = .ok (.iload_n 1, 1) := by decide +kernel
theorem dX9_sag_2 : decode cX9_sag 2 = .ok (.iload_n 2, 1) := by decide +kernel
theorem dX9_sag_3 : decode cX9_sag 3 = .ok (.iload_n 3, 1) := by decide +kernel
theorem dX9_sag_4 : decode cX9_sag 4 = .ok (.iload 4, 2) := by decide +kernel
theorem dX9_sag_6 : decode cX9_sag 6 = .ok (.iconst 0, 1) := by decide +kernel
theorem dX9_sag_7 : decode cX9_sag 7 = .ok (.bipush 100, 2) := by decide +kernel
theorem dX9_sag_9 : decode cX9_sag 9 = .ok (.invokestatic 75, 3) := by decide +kernel
theorem dX9_sag_12 : decode cX9_sag 12 = .ok (.invokevirtual 173, 3) := by decide +kernel
theorem dX9_sag_15 : decode cX9_sag 15 = .ok (.istore 5, 2) := by decide +kernel
theorem dX9_sag_17 : decode cX9_sag 17 = .ok (.iload 5, 2) := by decide +kernel
theorem dX9_sag_19 : decode cX9_sag 19 = .ok (.ifCond .eq 6, 3) := by decide +kernel
theorem dX9_sag_22 : decode cX9_sag 22 = .ok (.iload 5, 2) := by decide +kernel
theorem dX9_sag_24 : decode cX9_sag 24 = .ok (.ireturn, 1) := by decide +kernel
theorem dX9_sag_25 : decode cX9_sag 25 = .ok (.iconst 0, 1) := by decide +kernel
theorem dX9_sag_26 : decode cX9_sag 26 = .ok (.istore 6, 2) := by decide +kernel
theorem dX9_sag_28 : decode cX9_sag 28 = .ok (.iconst 0, 1) := by decide +kernel
theorem dX9_sag_29 : decode cX9_sag 29 = .ok (.istore 7, 2) := by decide +kernel
theorem dX9_sag_31 : decode cX9_sag 31 = .ok (.iload 7, 2) := by decide +kernel
theorem dX9_sag_33 : decode cX9_sag 33 = .ok (.aload_n 0, 1) := by decide +kernel
theorem dX9_sag_34 : decode cX9_sag 34 = .ok (.getfield 19, 3) := by decide +kernel
theorem dX9_sag_37 : decode cX9_sag 37 = .ok (.getfield 244, 3) := by decide +kernel
theorem dX9_sag_40 : decode cX9_sag 40 = .ok (.if_icmp .ge 64, 3) := by decide +kernel
theorem dX9_sag_43 : decode cX9_sag 43 = .ok (.aload_n 0, 1) := by decide +kernel
theorem dX9_sag_44 : decode cX9_sag 44 = .ok (.getfield 65, 3) := by decide +kernel
theorem dX9_sag_47 : decode cX9_sag 47 = .ok (.aload_n 0, 1) := by decide +kernel
theorem dX9_sag_48 : decode cX9_sag 48 = .ok (.getfield 19, 3) := by decide +kernel
theorem dX9_sag_51 : decode cX9_sag 51 = .ok (.aload_n 0, 1) := by decide +kernel
theorem dX9_sag_52 : decode cX9_sag 52 = .ok (.getfield 61, 3) := by decide +kernel
theorem dX9_sag_55 : decode cX9_sag 55 = .ok (.aload_n 0, 1) := by decide +kernel
theorem dX9_sag_56 : decode cX9_sag 56 = .ok (.getfield 19, 3) := by decide +kernel
theorem dX9_sag_59 : decode cX9_sag 59 = .ok (.iload 7, 2) := by decide +kernel
theorem dX9_sag_61 : decode cX9_sag 61 = .ok (.iload_n 2, 1) := by decide +kernel
theorem dX9_sag_62 : decode cX9_sag 62 = .ok (.invokevirtual 237, 3) := by decide +kernel
theorem dX9_sag_65 : decode cX9_sag 65 = .ok (.invokevirtual 240, 3) := by decide +kernel
theorem dX9_sag_68 : decode cX9_sag 68 = .ok (.aload_n 0, 1) := by decide +kernel
theorem dX9_sag_69 : decode cX9_sag 69 = .ok (.getfield 65, 3) := by decide +kernel
theorem dX9_sag_72 : decode cX9_sag 72 = .ok (.aload_n 0, 1) := by decide +kernel
theorem dX9_sag_73 : decode cX9_sag 73 = .ok (.getfield 19, 3) := by decide +kernel
theorem dX9_sag_76 : decode cX9_sag 76 = .ok (.getfield 247, 3) := by decide +kernel
theorem dX9_sag_79 : decode cX9_sag 79 = .ok (.i2l, 1) := by decide +kernel
theorem dX9_sag_80 : decode cX9_sag 80 = .ok (.iload 4, 2) := by decide +kernel
theorem dX9_sag_82 : decode cX9_sag 82 = .ok (.i2l, 1) := by decide +kernel
theorem dX9_sag_83 : decode cX9_sag 83 = .ok (.invokevirtual 250, 3) := by decide +kernel
theorem dX9_sag_86 : decode cX9_sag 86 = .ok (.ifCond .eq 12, 3) := by decide +kernel
theorem dX9_sag_89 : decode cX9_sag 89 = .ok (.iload 6, 2) := by decide +kernel
theorem dX9_sag_91 : decode cX9_sag 91 = .ok (.iconst 1, 1) := by decide +kernel
theorem dX9_sag_92 : decode cX9_sag 92 = .ok (.iload 7, 2) := by decide +kernel
theorem dX9_sag_94 : decode cX9_sag 94 = .ok (.ishl, 1) := by decide +kernel
theorem dX9_sag_95 : decode cX9_sag 95 = .ok (.ior, 1) := by decide +kernel
theorem dX9_sag_96 : decode cX9_sag 96 = .ok (.istore 6, 2) := by decide +kernel
theorem dX9_sag_98 : decode cX9_sag 98 = .ok (.iinc 7 1, 3) := by decide +kernel
theorem dX9_sag_101 : decode cX9_sag 101 = .ok (.goto (-70), 3) := by decide +kernel
theorem dX9_sag_104 : decode cX9_sag 104 = .ok (.iload 6, 2) := by decide +kernel
theorem dX9_sag_106 : decode cX9_sag 106 = .ok (.ireturn, 1) := by decide +kernel
set_option maxRecDepth 20000 in
theorem ggX9_trips_X9_askFault : GoodIn wsX9_trips wsX9_askFault := goodIn_r _ [9, 10, 11, 3, 1, 12, 13, 14, 15, 8, 16, 17, 18, 19, 20, 21, 22, 23, 24, 25, 26, 27, 28, 29, 30, 31, 32, 33, 34, 35, 36, 37, 38, 39, 40, 41, 42, 43, 44, 45, 46, 47, 72, 73, 74, 75, 76, 77, 78, 79, 80, 81, 82, 83, 84, 85, 86, 87, 88, 89, 90, 91, 92] (by decide +kernel) (by decide +kernel)
set_option maxRecDepth 20000 in
theorem gX9_trips_X9_askFault : GoodIn wsX9_trips (wsV RX9 173 RX9 yX9_askFault wsX9_askFault) := goodIn_app (goodIn_of _ (by decide +kernel)) ggX9_trips_X9_askFault
set_option maxRecDepth 20000 in
theorem ggX9_trips_X0_exceeds : GoodIn wsX9_trips wsX0_exceeds := goodIn_r _ [51, 33, 52, 53, 54, 30, 55, 56, 57, 58, 59, 60, 61, 62, 63, 64, 65, 66, 67, 45, 46, 47, 68, 69, 70, 71, 89, 90, 91, 92] (by decide +kernel) (by decide +kernel)
set_option maxRecDepth 20000 in
theorem gX9_trips_X0_exceeds : GoodIn wsX9_trips (wsV RX9 254 RX0 yX0_exceeds wsX0_exceeds) := goodIn_app (goodIn_of _ (by decide +kernel)) ggX9_trips_X0_exceeds
theorem dX9_trips_0 : decode cX9_trips 0 = .ok (.aload_n 0, 1) := by decide +kernel
theorem dX9_trips_1 : decode cX9_trips 1 = .ok (.iload_n 1, 1) := by decide +kernel
theorem dX9_trips_2 : decode cX9_trips 2 = .ok (.iload_n 2, 1) := by decide +kernel
theorem dX9_trips_3 : decode cX9_trips 3 = .ok (.iload_n 3, 1) := by decide +kernel
theorem dX9_trips_4 : decode cX9_trips 4 = .ok (.iconst 0, 1) := by decide +kernel
theorem dX9_trips_5 : decode cX9_trips 5 = .ok (.invokevirtual 173, 3) := by decide +kernel
theorem dX9_trips_8 : decode cX9_trips 8 = .ok (.istore 4, 2) := by decide +kernel
theorem dX9_trips_10 : decode cX9_trips 10 = .ok (.iload 4, 2) := by decide +kernel
theorem dX9_trips_12 : decode cX9_trips 12 = .ok (.ifCond .eq 6, 3) := by decide +kernel
theorem dX9_trips_15 : decode cX9_trips 15 = .ok (.iload 4, 2) := by decide +kernel
theorem dX9_trips_17 : decode cX9_trips 17 = .ok (.ireturn, 1) := by decide +kernel
theorem dX9_trips_18 : decode cX9_trips 18 = .ok (.iconst 0, 1) := by decide +kernel
theorem dX9_trips_19 : decode cX9_trips 19 = .ok (.istore 5, 2) := by decide +kernel
theorem dX9_trips_21 : decode cX9_trips 21 = .ok (.iconst 0, 1) := by decide +kernel
theorem dX9_trips_22 : decode cX9_trips 22 = .ok (.istore 6, 2) := by decide +kernel
theorem dX9_trips_24 : decode cX9_trips 24 = .ok (.iload_n 2, 1) := by decide +kernel
theorem dX9_trips_25 : decode cX9_trips 25 = .ok (.istore 7, 2) := by decide +kernel
theorem dX9_trips_27 : decode cX9_trips 27 = .ok (.iload 6, 2) := by decide +kernel
theorem dX9_trips_29 : decode cX9_trips 29 = .ok (.bipush 6, 2) := by decide +kernel
theorem dX9_trips_31 : decode cX9_trips 31 = .ok (.if_icmp .ge 69, 3) := by decide +kernel
theorem dX9_trips_34 : decode cX9_trips 34 = .ok (.iload 7, 2) := by decide +kernel
theorem dX9_trips_36 : decode cX9_trips 36 = .ok (.ifCond .le 64, 3) := by decide +kernel
theorem dX9_trips_39 : decode cX9_trips 39 = .ok (.aload_n 0, 1) := by decide +kernel
theorem dX9_trips_40 : decode cX9_trips 40 = .ok (.getfield 19, 3) := by decide +kernel
theorem dX9_trips_43 : decode cX9_trips 43 = .ok (.getfield 114, 3) := by decide +kernel
theorem dX9_trips_46 : decode cX9_trips 46 = .ok (.iload 7, 2) := by decide +kernel
theorem dX9_trips_48 : decode cX9_trips 48 = .ok (.iaload, 1) := by decide +kernel
theorem dX9_trips_49 : decode cX9_trips 49 = .ok (.ifCond .le 33, 3) := by decide +kernel
theorem dX9_trips_52 : decode cX9_trips 52 = .ok (.aload_n 0, 1) := by decide +kernel
theorem dX9_trips_53 : decode cX9_trips 53 = .ok (.getfield 61, 3) := by decide +kernel
theorem dX9_trips_56 : decode cX9_trips 56 = .ok (.aload_n 0, 1) := by decide +kernel
theorem dX9_trips_57 : decode cX9_trips 57 = .ok (.getfield 19, 3) := by decide +kernel
theorem dX9_trips_60 : decode cX9_trips 60 = .ok (.getfield 114, 3) := by decide +kernel
theorem dX9_trips_63 : decode cX9_trips 63 = .ok (.iload 7, 2) := by decide +kernel
theorem dX9_trips_65 : decode cX9_trips 65 = .ok (.iaload, 1) := by decide +kernel
theorem dX9_trips_66 : decode cX9_trips 66 = .ok (.i2l, 1) := by decide +kernel
theorem dX9_trips_67 : decode cX9_trips 67 = .ok (.invokevirtual 254, 3) := by decide +kernel
theorem dX9_trips_70 : decode cX9_trips 70 = .ok (.ifCond .eq 12, 3) := by decide +kernel
theorem dX9_trips_73 : decode cX9_trips 73 = .ok (.iload 5, 2) := by decide +kernel
theorem dX9_trips_75 : decode cX9_trips 75 = .ok (.iconst 1, 1) := by decide +kernel
theorem dX9_trips_76 : decode cX9_trips 76 = .ok (.iload 7, 2) := by decide +kernel
theorem dX9_trips_78 : decode cX9_trips 78 = .ok (.ishl, 1) := by decide +kernel
theorem dX9_trips_79 : decode cX9_trips 79 = .ok (.ior, 1) := by decide +kernel
theorem dX9_trips_80 : decode cX9_trips 80 = .ok (.istore 5, 2) := by decide +kernel
theorem dX9_trips_82 : decode cX9_trips 82 = .ok (.iinc 6 1, 3) := by decide +kernel
theorem dX9_trips_85 : decode cX9_trips 85 = .ok (.aload_n 0, 1) := by decide +kernel
theorem dX9_trips_86 : decode cX9_trips 86 = .ok (.getfield 19, 3) := by decide +kernel
theorem dX9_trips_89 : decode cX9_trips 89 = .ok (.getfield 107, 3) := by decide +kernel
theorem dX9_trips_92 : decode cX9_trips 92 = .ok (.iload 7, 2) := by decide +kernel
theorem dX9_trips_94 : decode cX9_trips 94 = .ok (.iaload, 1) := by decide +kernel
theorem dX9_trips_95 : decode cX9_trips 95 = .ok (.istore 7, 2) := by decide +kernel
theorem dX9_trips_97 : decode cX9_trips 97 = .ok (.goto (-70), 3) := by decide +kernel
theorem dX9_trips_100 : decode cX9_trips 100 = .ok (.iload 5, 2) := by decide +kernel
theorem dX9_trips_102 : decode cX9_trips 102 = .ok (.ireturn, 1) := by decide +kernel
set_option maxRecDepth 20000 in
theorem ggX9_worst_X9_isNoSort : GoodIn wsX9_worst wsX9_isNoSort := goodIn_r _ [9, 10, 11, 8, 12] (by decide +kernel) (by decide +kernel)
set_option maxRecDepth 20000 in
theorem gX9_worst_X9_isNoSort : GoodIn wsX9_worst (va_wsS RX9 258 yX9_isNoSort wsX9_isNoSort) := goodIn_app (goodIn_of _ (by decide +kernel)) ggX9_worst_X9_isNoSort
set_option maxRecDepth 20000 in
theorem ggX9_worst_X9_isNoOhms : GoodIn wsX9_worst wsX9_isNoOhms := goodIn_r _ [15, 10, 11, 8, 12] (by decide +kernel) (by decide +kernel)
set_option maxRecDepth 20000 in
theorem gX9_worst_X9_isNoOhms : GoodIn wsX9_worst (va_wsS RX9 261 yX9_isNoOhms wsX9_isNoOhms) := goodIn_app (goodIn_of _ (by decide +kernel)) ggX9_worst_X9_isNoOhms
set_option maxRecDepth 20000 in
theorem ggX9_worst_X0_takeFault : GoodIn wsX9_worst wsX0_takeFault := goodIn_r _ [20, 21, 22, 23, 24, 25, 26, 27, 28, 29, 30, 31, 32, 19, 33, 34, 35, 36, 69, 70, 71, 72, 73, 74, 75, 76, 77] (by decide +kernel) (by decide +kernel)
set_option maxRecDepth 20000 in
theorem gX9_worst_X0_takeFault : GoodIn wsX9_worst (wsV RX9 264 RX0 yX0_takeFault wsX0_takeFault) := goodIn_app (goodIn_of _ (by decide +kernel)) ggX9_worst_X0_takeFault
set_option maxRecDepth 20000 in
theorem ggX9_worst_X0_greatestNorm : GoodIn wsX9_worst wsX0_greatestNorm := goodIn_r _ [40, 41, 42, 43, 44, 45, 46, 47, 19, 48, 49, 50, 51, 52, 34, 35, 36, 53, 54, 55, 56, 74, 75, 76, 77] (by decide +kernel) (by decide +kernel)
set_option maxRecDepth 20000 in
theorem gX9_worst_X0_greatestNorm : GoodIn wsX9_worst (wsV RX9 268 RX0 yX0_greatestNorm wsX0_greatestNorm) := goodIn_app (goodIn_of _ (by decide +kernel)) ggX9_worst_X0_greatestNorm
theorem dX9_worst_0 : decode cX9_worst 0 = .ok (.iload_n 1, 1) := by decide +kernel
theorem dX9_worst_1 : decode cX9_worst 1 = .ok (.invokestatic 258, 3) := by decide +kernel
theorem dX9_worst_4 : decode cX9_worst 4 = .ok (.ifCond .ne 10, 3) := by decide +kernel
theorem dX9_worst_7 : decode cX9_worst 7 = .ok (.iload_n 2, 1) := by decide +kernel
theorem dX9_worst_8 : decode cX9_worst 8 = .ok (.invokestatic 261, 3) := by decide +kernel
theorem dX9_worst_11 : decode cX9_worst 11 = .ok (.ifCond .eq 6, 3) := by decide +kernel
theorem dX9_worst_14 : decode cX9_worst 14 = .ok (.ldc 79, 2) := by decide +kernel
theorem dX9_worst_16 : decode cX9_worst 16 = .ok (.ireturn, 1) := by decide +kernel
theorem dX9_worst_17 : decode cX9_worst 17 = .ok (.iconst (-1), 1) := by decide +kernel
theorem dX9_worst_18 : decode cX9_worst 18 = .ok (.istore_n 3, 1) := by decide +kernel
theorem dX9_worst_19 : decode cX9_worst 19 = .ok (.lconst 0, 1) := by decide +kernel
theorem dX9_worst_20 : decode cX9_worst 20 = .ok (.lstore 4, 2) := by decide +kernel
theorem dX9_worst_22 : decode cX9_worst 22 = .ok (.lconst 1, 1) := by decide +kernel
theorem dX9_worst_23 : decode cX9_worst 23 = .ok (.lstore 6, 2) := by decide +kernel
theorem dX9_worst_25 : decode cX9_worst 25 = .ok (.iconst 0, 1) := by decide +kernel
theorem dX9_worst_26 : decode cX9_worst 26 = .ok (.istore 8, 2) := by decide +kernel
theorem dX9_worst_28 : decode cX9_worst 28 = .ok (.iload 8, 2) := by decide +kernel
theorem dX9_worst_30 : decode cX9_worst 30 = .ok (.aload_n 0, 1) := by decide +kernel
theorem dX9_worst_31 : decode cX9_worst 31 = .ok (.getfield 19, 3) := by decide +kernel
theorem dX9_worst_34 : decode cX9_worst 34 = .ok (.getfield 244, 3) := by decide +kernel
theorem dX9_worst_37 : decode cX9_worst 37 = .ok (.if_icmp .ge 83, 3) := by decide +kernel
theorem dX9_worst_40 : decode cX9_worst 40 = .ok (.aload_n 0, 1) := by decide +kernel
theorem dX9_worst_41 : decode cX9_worst 41 = .ok (.getfield 61, 3) := by decide +kernel
theorem dX9_worst_44 : decode cX9_worst 44 = .ok (.aload_n 0, 1) := by decide +kernel
theorem dX9_worst_45 : decode cX9_worst 45 = .ok (.getfield 19, 3) := by decide +kernel
theorem dX9_worst_48 : decode cX9_worst 48 = .ok (.iload_n 1, 1) := by decide +kernel
theorem dX9_worst_49 : decode cX9_worst 49 = .ok (.iload 8, 2) := by decide +kernel
theorem dX9_worst_51 : decode cX9_worst 51 = .ok (.iload_n 2, 1) := by decide +kernel
theorem dX9_worst_52 : decode cX9_worst 52 = .ok (.invokevirtual 264, 3) := by decide +kernel
theorem dX9_worst_55 : decode cX9_worst 55 = .ok (.ifCond .eq 59, 3) := by decide +kernel
theorem dX9_worst_58 : decode cX9_worst 58 = .ok (.aload_n 0, 1) := by decide +kernel
theorem dX9_worst_59 : decode cX9_worst 59 = .ok (.getfield 61, 3) := by decide +kernel
theorem dX9_worst_62 : decode cX9_worst 62 = .ok (.invokevirtual 268, 3) := by decide +kernel
theorem dX9_worst_65 : decode cX9_worst 65 = .ok (.lstore 9, 2) := by decide +kernel
theorem dX9_worst_67 : decode cX9_worst 67 = .ok (.aload_n 0, 1) := by decide +kernel
theorem dX9_worst_68 : decode cX9_worst 68 = .ok (.getfield 61, 3) := by decide +kernel
theorem dX9_worst_71 : decode cX9_worst 71 = .ok (.getfield 180, 3) := by decide +kernel
theorem dX9_worst_74 : decode cX9_worst 74 = .ok (.aload_n 0, 1) := by decide +kernel
theorem dX9_worst_75 : decode cX9_worst 75 = .ok (.getfield 61, 3) := by decide +kernel
theorem dX9_worst_78 : decode cX9_worst 78 = .ok (.getfield 180, 3) := by decide +kernel
theorem dX9_worst_81 : decode cX9_worst 81 = .ok (.lmul, 1) := by decide +kernel
theorem dX9_worst_82 : decode cX9_worst 82 = .ok (.lstore 11, 2) := by decide +kernel
theorem dX9_worst_84 : decode cX9_worst 84 = .ok (.iload_n 3, 1) := by decide +kernel
theorem dX9_worst_85 : decode cX9_worst 85 = .ok (.iconst (-1), 1) := by decide +kernel
theorem dX9_worst_86 : decode cX9_worst 86 = .ok (.if_icmp .eq 17, 3) := by decide +kernel
theorem dX9_worst_89 : decode cX9_worst 89 = .ok (.lload 9, 2) := by decide +kernel
theorem dX9_worst_91 : decode cX9_worst 91 = .ok (.lload 6, 2) := by decide +kernel
theorem dX9_worst_93 : decode cX9_worst 93 = .ok (.lmul, 1) := by decide +kernel
theorem dX9_worst_94 : decode cX9_worst 94 = .ok (.lload 4, 2) := by decide +kernel
theorem dX9_worst_96 : decode cX9_worst 96 = .ok (.lload 11, 2) := by decide +kernel
theorem dX9_worst_98 : decode cX9_worst 98 = .ok (.lmul, 1) := by decide +kernel
theorem dX9_worst_99 : decode cX9_worst 99 = .ok (.lcmp, 1) := by decide +kernel
theorem dX9_worst_100 : decode cX9_worst 100 = .ok (.ifCond .le 14, 3) := by decide +kernel
theorem dX9_worst_103 : decode cX9_worst 103 = .ok (.iload 8, 2) := by decide +kernel
theorem dX9_worst_105 : decode cX9_worst 105 = .ok (.istore_n 3, 1) := by decide +kernel
theorem dX9_worst_106 : decode cX9_worst 106 = .ok (.lload 9, 2) := by decide +kernel
theorem dX9_worst_108 : decode cX9_worst 108 = .ok (.lstore 4, 2) := by decide +kernel
theorem dX9_worst_110 : decode cX9_worst 110 = .ok (.lload 11, 2) := by decide +kernel
theorem dX9_worst_112 : decode cX9_worst 112 = .ok (.lstore 6, 2) := by decide +kernel
theorem dX9_worst_114 : decode cX9_worst 114 = .ok (.iinc 8 1, 3) := by decide +kernel
theorem dX9_worst_117 : decode cX9_worst 117 = .ok (.goto (-89), 3) := by decide +kernel
theorem dX9_worst_120 : decode cX9_worst 120 = .ok (.iload_n 3, 1) := by decide +kernel
theorem dX9_worst_121 : decode cX9_worst 121 = .ok (.ireturn, 1) := by decide +kernel
set_option maxRecDepth 20000 in
theorem ggX9_match_X9_isOutside : GoodIn wsX9_match wsX9_isOutside := goodIn_r _ [9] (by decide +kernel) (by decide +kernel)
set_option maxRecDepth 20000 in
theorem gX9_match_X9_isOutside : GoodIn wsX9_match (va_wsS RX9 75 yX9_isOutside wsX9_isOutside) := goodIn_app (goodIn_of _ (by decide +kernel)) ggX9_match_X9_isOutside
set_option maxRecDepth 20000 in
theorem ggX9_match_X0_takeFault : GoodIn wsX9_match wsX0_takeFault := goodIn_r _ [14, 15, 16, 17, 18, 19, 20, 21, 22, 23, 24, 25, 26, 13, 27, 28, 29, 30, 64, 65, 66, 67, 68, 69, 70, 71, 72] (by decide +kernel) (by decide +kernel)
set_option maxRecDepth 20000 in
theorem gX9_match_X0_takeFault : GoodIn wsX9_match (wsV RX9 264 RX0 yX0_takeFault wsX0_takeFault) := goodIn_app (goodIn_of _ (by decide +kernel)) ggX9_match_X0_takeFault
set_option maxRecDepth 20000 in
theorem ggX9_match_X0_isAs : GoodIn wsX9_match wsX0_isAs := goodIn_r _ [34, 35, 36, 37, 38, 39, 40, 13, 41, 28, 29, 30, 42, 43, 44, 45, 46, 47, 16, 48, 49, 50, 51, 73, 74, 75, 69, 70, 71, 72, 76, 77, 78] (by decide +kernel) (by decide +kernel)
set_option maxRecDepth 20000 in
theorem gX9_match_X0_isAs : GoodIn wsX9_match (wsV RX9 272 RX0 yX0_isAs wsX0_isAs) := goodIn_app (goodIn_of _ (by decide +kernel)) ggX9_match_X0_isAs
theorem dX9_match_0 : decode cX9_match 0 = .ok (.iload_n 1, 1) := by decide +kernel
theorem dX9_match_1 : decode cX9_match 1 = .ok (.iconst 0, 1) := by decide +kernel
theorem dX9_match_2 : decode cX9_match 2 = .ok (.iconst 1, 1) := by decide +kernel
theorem dX9_match_3 : decode cX9_match 3 = .ok (.invokestatic 75, 3) := by decide +kernel
theorem dX9_match_6 : decode cX9_match 6 = .ok (.ifCond .eq 6, 3) := by decide +kernel
theorem dX9_match_9 : decode cX9_match 9 = .ok (.ldc 79, 2) := by decide +kernel
theorem dX9_match_11 : decode cX9_match 11 = .ok (.ireturn, 1) := by decide +kernel
theorem dX9_match_12 : decode cX9_match 12 = .ok (.iconst 0, 1) := by decide +kernel
theorem dX9_match_13 : decode cX9_match 13 = .ok (.istore_n 2, 1) := by decide +kernel
theorem dX9_match_14 : decode cX9_match 14 = .ok (.iconst (-1), 1) := by decide +kernel
theorem dX9_match_15 : decode cX9_match 15 = .ok (.istore_n 3, 1) := by decide +kernel
theorem dX9_match_16 : decode cX9_match 16 = .ok (.iconst 0, 1) := by decide +kernel
theorem dX9_match_17 : decode cX9_match 17 = .ok (.istore 4, 2) := by decide +kernel
theorem dX9_match_19 : decode cX9_match 19 = .ok (.iload 4, 2) := by decide +kernel
theorem dX9_match_21 : decode cX9_match 21 = .ok (.iconst 4, 1) := by decide +kernel
theorem dX9_match_22 : decode cX9_match 22 = .ok (.if_icmp .ge 108, 3) := by decide +kernel
theorem dX9_match_25 : decode cX9_match 25 = .ok (.iconst 0, 1) := by decide +kernel
theorem dX9_match_26 : decode cX9_match 26 = .ok (.istore 5, 2) := by decide +kernel
theorem dX9_match_28 : decode cX9_match 28 = .ok (.iload 5, 2) := by decide +kernel
theorem dX9_match_30 : decode cX9_match 30 = .ok (.aload_n 0, 1) := by decide +kernel
theorem dX9_match_31 : decode cX9_match 31 = .ok (.getfield 19, 3) := by decide +kernel
theorem dX9_match_34 : decode cX9_match 34 = .ok (.getfield 244, 3) := by decide +kernel
theorem dX9_match_37 : decode cX9_match 37 = .ok (.if_icmp .ge 87, 3) := by decide +kernel
theorem dX9_match_40 : decode cX9_match 40 = .ok (.iconst 0, 1) := by decide +kernel
theorem dX9_match_41 : decode cX9_match 41 = .ok (.istore 6, 2) := by decide +kernel
theorem dX9_match_43 : decode cX9_match 43 = .ok (.iload 6, 2) := by decide +kernel
theorem dX9_match_45 : decode cX9_match 45 = .ok (.bipush 9, 2) := by decide +kernel
theorem dX9_match_47 : decode cX9_match 47 = .ok (.if_icmp .gt 71, 3) := by decide +kernel
theorem dX9_match_50 : decode cX9_match 50 = .ok (.aload_n 0, 1) := by decide +kernel
theorem dX9_match_51 : decode cX9_match 51 = .ok (.getfield 61, 3) := by decide +kernel
theorem dX9_match_54 : decode cX9_match 54 = .ok (.aload_n 0, 1) := by decide +kernel
theorem dX9_match_55 : decode cX9_match 55 = .ok (.getfield 19, 3) := by decide +kernel
theorem dX9_match_58 : decode cX9_match 58 = .ok (.iload 4, 2) := by decide +kernel
theorem dX9_match_60 : decode cX9_match 60 = .ok (.iload 5, 2) := by decide +kernel
theorem dX9_match_62 : decode cX9_match 62 = .ok (.iload 6, 2) := by decide +kernel
theorem dX9_match_64 : decode cX9_match 64 = .ok (.invokevirtual 264, 3) := by decide +kernel
theorem dX9_match_67 : decode cX9_match 67 = .ok (.ifCond .eq 45, 3) := by decide +kernel
theorem dX9_match_70 : decode cX9_match 70 = .ok (.aload_n 0, 1) := by decide +kernel
theorem dX9_match_71 : decode cX9_match 71 = .ok (.getfield 61, 3) := by decide +kernel
theorem dX9_match_74 : decode cX9_match 74 = .ok (.aload_n 0, 1) := by decide +kernel
theorem dX9_match_75 : decode cX9_match 75 = .ok (.getfield 29, 3) := by decide +kernel
theorem dX9_match_78 : decode cX9_match 78 = .ok (.invokevirtual 272, 3) := by decide +kernel
theorem dX9_match_81 : decode cX9_match 81 = .ok (.ifCond .eq 31, 3) := by decide +kernel
theorem dX9_match_84 : decode cX9_match 84 = .ok (.iinc 2 1, 3) := by decide +kernel
theorem dX9_match_87 : decode cX9_match 87 = .ok (.iload_n 3, 1) := by decide +kernel
theorem dX9_match_88 : decode cX9_match 88 = .ok (.iconst (-1), 1) := by decide +kernel
theorem dX9_match_89 : decode cX9_match 89 = .ok (.if_icmp .ne 21, 3) := by decide +kernel
theorem dX9_match_92 : decode cX9_match 92 = .ok (.sipush 10000, 3) := by decide +kernel
theorem dX9_match_95 : decode cX9_match 95 = .ok (.iload 4, 2) := by decide +kernel
theorem dX9_match_97 : decode cX9_match 97 = .ok (.imul, 1) := by decide +kernel
theorem dX9_match_98 : decode cX9_match 98 = .ok (.bipush 100, 2) := by decide +kernel
theorem dX9_match_100 : decode cX9_match 100 = .ok (.iload 5, 2) := by decide +kernel
theorem dX9_match_102 : decode cX9_match 102 = .ok (.imul, 1) := by decide +kernel
theorem dX9_match_103 : decode cX9_match 103 = .ok (.iadd, 1) := by decide +kernel
theorem dX9_match_104 : decode cX9_match 104 = .ok (.iload 6, 2) := by decide +kernel
theorem dX9_match_106 : decode cX9_match 106 = .ok (.iadd, 1) := by decide +kernel
theorem dX9_match_107 : decode cX9_match 107 = .ok (.goto 4, 3) := by decide +kernel
theorem dX9_match_110 : decode cX9_match 110 = .ok (.iload_n 3, 1) := by decide +kernel
theorem dX9_match_111 : decode cX9_match 111 = .ok (.istore_n 3, 1) := by decide +kernel
theorem dX9_match_112 : decode cX9_match 112 = .ok (.iinc 6 1, 3) := by decide +kernel
theorem dX9_match_115 : decode cX9_match 115 = .ok (.goto (-72), 3) := by decide +kernel
theorem dX9_match_118 : decode cX9_match 118 = .ok (.iinc 5 1, 3) := by decide +kernel
theorem dX9_match_121 : decode cX9_match 121 = .ok (.goto (-93), 3) := by decide +kernel
theorem dX9_match_124 : decode cX9_match 124 = .ok (.iinc 4 1, 3) := by decide +kernel
theorem dX9_match_127 : decode cX9_match 127 = .ok (.goto (-108), 3) := by decide +kernel
theorem dX9_match_130 : decode cX9_match 130 = .ok (.iload_n 1, 1) := by decide +kernel
theorem dX9_match_131 : decode cX9_match 131 = .ok (.ifCond .ne 7, 3) := by decide +kernel
theorem dX9_match_134 : decode cX9_match 134 = .ok (.iload_n 2, 1) := by decide +kernel
theorem dX9_match_135 : decode cX9_match 135 = .ok (.goto 4, 3) := by decide +kernel
theorem dX9_match_138 : decode cX9_match 138 = .ok (.iload_n 3, 1) := by decide +kernel
theorem dX9_match_139 : decode cX9_match 139 = .ok (.ireturn, 1) := by decide +kernel
set_option maxRecDepth 20000 in
theorem ggX9_store_X9_isNoStore : GoodIn wsX9_store wsX9_isNoStore := goodIn_r _ [8, 9, 10, 7, 11] (by decide +kernel) (by decide +kernel)
set_option maxRecDepth 20000 in
theorem gX9_store_X9_isNoStore : GoodIn wsX9_store (va_wsS RX9 275 yX9_isNoStore wsX9_isNoStore) := goodIn_app (goodIn_of _ (by decide +kernel)) ggX9_store_X9_isNoStore
theorem dX9_store_0 : decode cX9_store 0 = .ok (.iload_n 1, 1) := by decide +kernel
theorem dX9_store_1 : decode cX9_store 1 = .ok (.invokestatic 275, 3) := by decide +kernel
theorem dX9_store_4 : decode cX9_store 4 = .ok (.ifCond .eq 6, 3) := by decide +kernel
theorem dX9_store_7 : decode cX9_store 7 = .ok (.ldc 106, 2) := by decide +kernel
theorem dX9_store_9 : decode cX9_store 9 = .ok (.ireturn, 1) := by decide +kernel
theorem dX9_store_10 : decode cX9_store 10 = .ok (.aload_n 0, 1) := by decide +kernel
theorem dX9_store_11 : decode cX9_store 11 = .ok (.getfield 71, 3) := by decide +kernel
theorem dX9_store_14 : decode cX9_store 14 = .ok (.iload_n 1, 1) := by decide +kernel
theorem dX9_store_15 : decode cX9_store 15 = .ok (.aaload, 1) := by decide +kernel
theorem dX9_store_16 : decode cX9_store 16 = .ok (.iconst 1, 1) := by decide +kernel
theorem dX9_store_17 : decode cX9_store 17 = .ok (.putfield 278, 3) := by decide +kernel
theorem dX9_store_20 : decode cX9_store 20 = .ok (.aload_n 0, 1) := by decide +kernel
theorem dX9_store_21 : decode cX9_store 21 = .ok (.getfield 71, 3) := by decide +kernel
theorem dX9_store_24 : decode cX9_store 24 = .ok (.iload_n 1, 1) := by decide +kernel
theorem dX9_store_25 : decode cX9_store 25 = .ok (.aaload, 1) := by decide +kernel
theorem dX9_store_26 : decode cX9_store 26 = .ok (.iconst 0, 1) := by decide +kernel
theorem dX9_store_27 : decode cX9_store 27 = .ok (.putfield 282, 3) := by decide +kernel
theorem dX9_store_30 : decode cX9_store 30 = .ok (.iconst 0, 1) := by decide +kernel
theorem dX9_store_31 : decode cX9_store 31 = .ok (.ireturn, 1) := by decide +kernel
set_option maxRecDepth 20000 in
theorem ggX9_put_X9_isNoStore : GoodIn wsX9_put wsX9_isNoStore := goodIn_r _ [7, 8, 9, 6, 10] (by decide +kernel) (by decide +kernel)
set_option maxRecDepth 20000 in
theorem gX9_put_X9_isNoStore : GoodIn wsX9_put (va_wsS RX9 275 yX9_isNoStore wsX9_isNoStore) := goodIn_app (goodIn_of _ (by decide +kernel)) ggX9_put_X9_isNoStore
set_option maxRecDepth 20000 in
theorem ggX9_put_X9_isOutside : GoodIn wsX9_put wsX9_isOutside := goodIn_r _ [10] (by decide +kernel) (by decide +kernel)
set_option maxRecDepth 20000 in
theorem gX9_put_X9_isOutside : GoodIn wsX9_put (va_wsS RX9 75 yX9_isOutside wsX9_isOutside) := goodIn_app (goodIn_of _ (by decide +kernel)) ggX9_put_X9_isOutside
set_option maxRecDepth 20000 in
theorem ggX9_put_X9_isNoWhole : GoodIn wsX9_put wsX9_isNoWhole := goodIn_r _ [13, 8, 9, 6, 10] (by decide +kernel) (by decide +kernel)
set_option maxRecDepth 20000 in
theorem gX9_put_X9_isNoWhole : GoodIn wsX9_put (va_wsS RX9 128 yX9_isNoWhole wsX9_isNoWhole) := goodIn_app (goodIn_of _ (by decide +kernel)) ggX9_put_X9_isNoWhole
set_option maxRecDepth 20000 in
theorem ggX9_put_X6_push : GoodIn wsX9_put wsX6_push := goodIn_r _ [18, 19, 20, 21, 22, 23, 24, 25, 38, 39, 40, 41, 42] (by decide +kernel) (by decide +kernel)
set_option maxRecDepth 20000 in
theorem gX9_put_X6_push : GoodIn wsX9_put (wsV RX9 283 RX6 yX6_push wsX6_push) := goodIn_app (goodIn_of _ (by decide +kernel)) ggX9_put_X6_push
theorem dX9_put_0 : decode cX9_put 0 = .ok (.iload_n 1, 1) := by decide +kernel
theorem dX9_put_1 : decode cX9_put 1 = .ok (.invokestatic 275, 3) := by decide +kernel
theorem dX9_put_4 : decode cX9_put 4 = .ok (.ifCond .eq 6, 3) := by decide +kernel
theorem dX9_put_7 : decode cX9_put 7 = .ok (.ldc 106, 2) := by decide +kernel
theorem dX9_put_9 : decode cX9_put 9 = .ok (.ireturn, 1) := by decide +kernel
theorem dX9_put_10 : decode cX9_put 10 = .ok (.iload_n 2, 1) := by decide +kernel
theorem dX9_put_11 : decode cX9_put 11 = .ok (.iconst 0, 1) := by decide +kernel
theorem dX9_put_12 : decode cX9_put 12 = .ok (.iconst 1, 1) := by decide +kernel
theorem dX9_put_13 : decode cX9_put 13 = .ok (.invokestatic 75, 3) := by decide +kernel
theorem dX9_put_16 : decode cX9_put 16 = .ok (.ifCond .ne 18, 3) := by decide +kernel
theorem dX9_put_19 : decode cX9_put 19 = .ok (.iload_n 3, 1) := by decide +kernel
theorem dX9_put_20 : decode cX9_put 20 = .ok (.invokestatic 128, 3) := by decide +kernel
theorem dX9_put_23 : decode cX9_put 23 = .ok (.ifCond .ne 11, 3) := by decide +kernel
theorem dX9_put_26 : decode cX9_put 26 = .ok (.iload 4, 2) := by decide +kernel
theorem dX9_put_28 : decode cX9_put 28 = .ok (.invokestatic 128, 3) := by decide +kernel
theorem dX9_put_31 : decode cX9_put 31 = .ok (.ifCond .eq 6, 3) := by decide +kernel
theorem dX9_put_34 : decode cX9_put 34 = .ok (.ldc 79, 2) := by decide +kernel
theorem dX9_put_36 : decode cX9_put 36 = .ok (.ireturn, 1) := by decide +kernel
theorem dX9_put_37 : decode cX9_put 37 = .ok (.aload_n 0, 1) := by decide +kernel
theorem dX9_put_38 : decode cX9_put 38 = .ok (.getfield 71, 3) := by decide +kernel
theorem dX9_put_41 : decode cX9_put 41 = .ok (.iload_n 1, 1) := by decide +kernel
theorem dX9_put_42 : decode cX9_put 42 = .ok (.aaload, 1) := by decide +kernel
theorem dX9_put_43 : decode cX9_put 43 = .ok (.iload_n 2, 1) := by decide +kernel
theorem dX9_put_44 : decode cX9_put 44 = .ok (.iconst 1, 1) := by decide +kernel
theorem dX9_put_45 : decode cX9_put 45 = .ok (.if_icmp .ne 7, 3) := by decide +kernel
theorem dX9_put_48 : decode cX9_put 48 = .ok (.iconst 1, 1) := by decide +kernel
theorem dX9_put_49 : decode cX9_put 49 = .ok (.goto 4, 3) := by decide +kernel
theorem dX9_put_52 : decode cX9_put 52 = .ok (.iconst 0, 1) := by decide +kernel
theorem dX9_put_53 : decode cX9_put 53 = .ok (.iload_n 3, 1) := by decide +kernel
theorem dX9_put_54 : decode cX9_put 54 = .ok (.iload 4, 2) := by decide +kernel
theorem dX9_put_56 : decode cX9_put 56 = .ok (.invokevirtual 283, 3) := by decide +kernel
theorem dX9_put_59 : decode cX9_put 59 = .ok (.ireturn, 1) := by decide +kernel
set_option maxRecDepth 20000 in
theorem ggX9_take_X9_isNoStore : GoodIn wsX9_take wsX9_isNoStore := goodIn_r _ [7, 8, 9, 6, 10] (by decide +kernel) (by decide +kernel)
set_option maxRecDepth 20000 in
theorem gX9_take_X9_isNoStore : GoodIn wsX9_take (va_wsS RX9 275 yX9_isNoStore wsX9_isNoStore) := goodIn_app (goodIn_of _ (by decide +kernel)) ggX9_take_X9_isNoStore
set_option maxRecDepth 20000 in
theorem ggX9_take_X9_isOutside : GoodIn wsX9_take wsX9_isOutside := goodIn_r _ [10] (by decide +kernel) (by decide +kernel)
set_option maxRecDepth 20000 in
theorem gX9_take_X9_isOutside : GoodIn wsX9_take (va_wsS RX9 75 yX9_isOutside wsX9_isOutside) := goodIn_app (goodIn_of _ (by decide +kernel)) ggX9_take_X9_isOutside
set_option maxRecDepth 20000 in
theorem ggX9_take_X6_pop : GoodIn wsX9_take wsX6_pop := goodIn_r _ [15, 16, 17, 18, 19, 20, 21, 22, 23, 36, 37, 38, 39, 40] (by decide +kernel) (by decide +kernel)
set_option maxRecDepth 20000 in
theorem gX9_take_X6_pop : GoodIn wsX9_take (wsV RX9 287 RX6 yX6_pop wsX6_pop) := goodIn_app (goodIn_of _ (by decide +kernel)) ggX9_take_X6_pop
theorem dX9_take_0 : decode cX9_take 0 = .ok (.iload_n 1, 1) := by decide +kernel
theorem dX9_take_1 : decode cX9_take 1 = .ok (.invokestatic 275, 3) := by decide +kernel
theorem dX9_take_4 : decode cX9_take 4 = .ok (.ifCond .eq 6, 3) := by decide +kernel
theorem dX9_take_7 : decode cX9_take 7 = .ok (.ldc 106, 2) := by decide +kernel
theorem dX9_take_9 : decode cX9_take 9 = .ok (.ireturn, 1) := by decide +kernel
theorem dX9_take_10 : decode cX9_take 10 = .ok (.iload_n 2, 1) := by decide +kernel
theorem dX9_take_11 : decode cX9_take 11 = .ok (.iconst 0, 1) := by decide +kernel
theorem dX9_take_12 : decode cX9_take 12 = .ok (.iconst 1, 1) := by decide +kernel
theorem dX9_take_13 : decode cX9_take 13 = .ok (.invokestatic 75, 3) := by decide +kernel
theorem dX9_take_16 : decode cX9_take 16 = .ok (.ifCond .eq 8, 3) := by decide +kernel
theorem dX9_take_19 : decode cX9_take 19 = .ok (.ldc 79, 2) := by decide +kernel
theorem dX9_take_21 : decode cX9_take 21 = .ok (.goto 22, 3) := by decide +kernel
theorem dX9_take_24 : decode cX9_take 24 = .ok (.aload_n 0, 1) := by decide +kernel
theorem dX9_take_25 : decode cX9_take 25 = .ok (.getfield 71, 3) := by decide +kernel
theorem dX9_take_28 : decode cX9_take 28 = .ok (.iload_n 1, 1) := by decide +kernel
theorem dX9_take_29 : decode cX9_take 29 = .ok (.aaload, 1) := by decide +kernel
theorem dX9_take_30 : decode cX9_take 30 = .ok (.iload_n 2, 1) := by decide +kernel
theorem dX9_take_31 : decode cX9_take 31 = .ok (.iconst 1, 1) := by decide +kernel
theorem dX9_take_32 : decode cX9_take 32 = .ok (.if_icmp .ne 7, 3) := by decide +kernel
theorem dX9_take_35 : decode cX9_take 35 = .ok (.iconst 1, 1) := by decide +kernel
theorem dX9_take_36 : decode cX9_take 36 = .ok (.goto 4, 3) := by decide +kernel
theorem dX9_take_39 : decode cX9_take 39 = .ok (.iconst 0, 1) := by decide +kernel
theorem dX9_take_40 : decode cX9_take 40 = .ok (.invokevirtual 287, 3) := by decide +kernel
theorem dX9_take_43 : decode cX9_take 43 = .ok (.ireturn, 1) := by decide +kernel
set_option maxRecDepth 20000 in
theorem ggX9_sum_X9_isNoStore : GoodIn wsX9_sum wsX9_isNoStore := goodIn_r _ [7, 8, 9, 6, 10] (by decide +kernel) (by decide +kernel)
set_option maxRecDepth 20000 in
theorem gX9_sum_X9_isNoStore : GoodIn wsX9_sum (va_wsS RX9 275 yX9_isNoStore wsX9_isNoStore) := goodIn_app (goodIn_of _ (by decide +kernel)) ggX9_sum_X9_isNoStore
set_option maxRecDepth 20000 in
theorem ggX9_sum_X9_isOutside : GoodIn wsX9_sum wsX9_isOutside := goodIn_r _ [10] (by decide +kernel) (by decide +kernel)
set_option maxRecDepth 20000 in
theorem gX9_sum_X9_isOutside : GoodIn wsX9_sum (va_wsS RX9 75 yX9_isOutside wsX9_isOutside) := goodIn_app (goodIn_of _ (by decide +kernel)) ggX9_sum_X9_isOutside
set_option maxRecDepth 20000 in
theorem ggX9_sum_X6_totalOf : GoodIn wsX9_sum wsX6_totalOf := goodIn_r _ [15, 16, 17, 18, 19, 20, 21, 34, 35, 36, 37, 38] (by decide +kernel) (by decide +kernel)
set_option maxRecDepth 20000 in
theorem gX9_sum_X6_totalOf : GoodIn wsX9_sum (wsV RX9 290 RX6 yX6_totalOf wsX6_totalOf) := goodIn_app (goodIn_of _ (by decide +kernel)) ggX9_sum_X6_totalOf
theorem dX9_sum_0 : decode cX9_sum 0 = .ok (.iload_n 1, 1) := by decide +kernel
theorem dX9_sum_1 : decode cX9_sum 1 = .ok (.invokestatic 275, 3) := by decide +kernel
theorem dX9_sum_4 : decode cX9_sum 4 = .ok (.ifCond .eq 6, 3) := by decide +kernel
theorem dX9_sum_7 : decode cX9_sum 7 = .ok (.ldc 106, 2) := by decide +kernel
theorem dX9_sum_9 : decode cX9_sum 9 = .ok (.ireturn, 1) := by decide +kernel
theorem dX9_sum_10 : decode cX9_sum 10 = .ok (.iload_n 2, 1) := by decide +kernel
theorem dX9_sum_11 : decode cX9_sum 11 = .ok (.iconst 0, 1) := by decide +kernel
theorem dX9_sum_12 : decode cX9_sum 12 = .ok (.iconst 2, 1) := by decide +kernel
theorem dX9_sum_13 : decode cX9_sum 13 = .ok (.invokestatic 75, 3) := by decide +kernel
theorem dX9_sum_16 : decode cX9_sum 16 = .ok (.ifCond .eq 8, 3) := by decide +kernel
theorem dX9_sum_19 : decode cX9_sum 19 = .ok (.ldc 79, 2) := by decide +kernel
theorem dX9_sum_21 : decode cX9_sum 21 = .ok (.goto 13, 3) := by decide +kernel
theorem dX9_sum_24 : decode cX9_sum 24 = .ok (.aload_n 0, 1) := by decide +kernel
theorem dX9_sum_25 : decode cX9_sum 25 = .ok (.getfield 71, 3) := by decide +kernel
theorem dX9_sum_28 : decode cX9_sum 28 = .ok (.iload_n 1, 1) := by decide +kernel
theorem dX9_sum_29 : decode cX9_sum 29 = .ok (.aaload, 1) := by decide +kernel
theorem dX9_sum_30 : decode cX9_sum 30 = .ok (.iload_n 2, 1) := by decide +kernel
theorem dX9_sum_31 : decode cX9_sum 31 = .ok (.invokevirtual 290, 3) := by decide +kernel
theorem dX9_sum_34 : decode cX9_sum 34 = .ok (.ireturn, 1) := by decide +kernel
set_option maxRecDepth 20000 in
theorem ggX9_drop_X9_isNoStore : GoodIn wsX9_drop wsX9_isNoStore := goodIn_r _ [8, 9, 10, 7, 11] (by decide +kernel) (by decide +kernel)
set_option maxRecDepth 20000 in
theorem gX9_drop_X9_isNoStore : GoodIn wsX9_drop (va_wsS RX9 275 yX9_isNoStore wsX9_isNoStore) := goodIn_app (goodIn_of _ (by decide +kernel)) ggX9_drop_X9_isNoStore
set_option maxRecDepth 20000 in
theorem ggX9_drop_X6_vanish : GoodIn wsX9_drop wsX6_vanish := goodIn_r _ [16, 17, 18, 31, 32, 33, 34, 35] (by decide +kernel) (by decide +kernel)
set_option maxRecDepth 20000 in
theorem gX9_drop_X6_vanish : GoodIn wsX9_drop (wsV RX9 293 RX6 yX6_vanish wsX6_vanish) := goodIn_app (goodIn_of _ (by decide +kernel)) ggX9_drop_X6_vanish
theorem dX9_drop_0 : decode cX9_drop 0 = .ok (.iload_n 1, 1) := by decide +kernel
theorem dX9_drop_1 : decode cX9_drop 1 = .ok (.invokestatic 275, 3) := by decide +kernel
theorem dX9_drop_4 : decode cX9_drop 4 = .ok (.ifCond .eq 6, 3) := by decide +kernel
theorem dX9_drop_7 : decode cX9_drop 7 = .ok (.ldc 106, 2) := by decide +kernel
theorem dX9_drop_9 : decode cX9_drop 9 = .ok (.ireturn, 1) := by decide +kernel
theorem dX9_drop_10 : decode cX9_drop 10 = .ok (.aload_n 0, 1) := by decide +kernel
theorem dX9_drop_11 : decode cX9_drop 11 = .ok (.getfield 71, 3) := by decide +kernel
theorem dX9_drop_14 : decode cX9_drop 14 = .ok (.iload_n 1, 1) := by decide +kernel
theorem dX9_drop_15 : decode cX9_drop 15 = .ok (.aaload, 1) := by decide +kernel
theorem dX9_drop_16 : decode cX9_drop 16 = .ok (.getfield 278, 3) := by decide +kernel
theorem dX9_drop_19 : decode cX9_drop 19 = .ok (.ifCond .eq 15, 3) := by decide +kernel
theorem dX9_drop_22 : decode cX9_drop 22 = .ok (.aload_n 0, 1) := by decide +kernel
theorem dX9_drop_23 : decode cX9_drop 23 = .ok (.getfield 71, 3) := by decide +kernel
theorem dX9_drop_26 : decode cX9_drop 26 = .ok (.iload_n 1, 1) := by decide +kernel
theorem dX9_drop_27 : decode cX9_drop 27 = .ok (.aaload, 1) := by decide +kernel
theorem dX9_drop_28 : decode cX9_drop 28 = .ok (.invokevirtual 293, 3) := by decide +kernel
theorem dX9_drop_31 : decode cX9_drop 31 = .ok (.goto 6, 3) := by decide +kernel
theorem dX9_drop_34 : decode cX9_drop 34 = .ok (.ldc_w 296, 3) := by decide +kernel
theorem dX9_drop_37 : decode cX9_drop 37 = .ok (.ireturn, 1) := by decide +kernel
set_option maxRecDepth 20000 in
theorem ggX9_count_X9_thingsOfAllStores : GoodIn wsX9_count wsX9_thingsOfAllStores := goodIn_r _ [13, 14, 15, 16, 17, 18, 19, 20, 21, 22, 23, 24, 25, 26, 27, 43, 44, 45, 46, 47] (by decide +kernel) (by decide +kernel)
set_option maxRecDepth 20000 in
theorem gX9_count_X9_thingsOfAllStores : GoodIn wsX9_count (wsV RX9 297 RX9 yX9_thingsOfAllStores wsX9_thingsOfAllStores) := goodIn_app (goodIn_of _ (by decide +kernel)) ggX9_count_X9_thingsOfAllStores
theorem dX9_count_0 : decode cX9_count 0 = .ok (.iload_n 1, 1) := by decide +kernel
theorem dX9_count_1 : decode cX9_count 1 = .ok (.tableswitch 72 0 4 #[35, 43, 51, 56, 64], 35) := by decide +kernel
theorem dX9_count_36 : decode cX9_count 36 = .ok (.aload_n 0, 1) := by decide +kernel
theorem dX9_count_37 : decode cX9_count 37 = .ok (.getfield 19, 3) := by decide +kernel
theorem dX9_count_40 : decode cX9_count 40 = .ok (.getfield 244, 3) := by decide +kernel
theorem dX9_count_43 : decode cX9_count 43 = .ok (.ireturn, 1) := by decide +kernel
theorem dX9_count_44 : decode cX9_count 44 = .ok (.aload_n 0, 1) := by decide +kernel
theorem dX9_count_45 : decode cX9_count 45 = .ok (.getfield 19, 3) := by decide +kernel
theorem dX9_count_48 : decode cX9_count 48 = .ok (.getfield 247, 3) := by decide +kernel
theorem dX9_count_51 : decode cX9_count 51 = .ok (.ireturn, 1) := by decide +kernel
theorem dX9_count_52 : decode cX9_count 52 = .ok (.aload_n 0, 1) := by decide +kernel
theorem dX9_count_53 : decode cX9_count 53 = .ok (.invokevirtual 297, 3) := by decide +kernel
theorem dX9_count_56 : decode cX9_count 56 = .ok (.ireturn, 1) := by decide +kernel
theorem dX9_count_57 : decode cX9_count 57 = .ok (.aload_n 0, 1) := by decide +kernel
theorem dX9_count_58 : decode cX9_count 58 = .ok (.getfield 39, 3) := by decide +kernel
theorem dX9_count_61 : decode cX9_count 61 = .ok (.getfield 190, 3) := by decide +kernel
theorem dX9_count_64 : decode cX9_count 64 = .ok (.ireturn, 1) := by decide +kernel
theorem dX9_count_65 : decode cX9_count 65 = .ok (.aload_n 0, 1) := by decide +kernel
theorem dX9_count_66 : decode cX9_count 66 = .ok (.getfield 10, 3) := by decide +kernel
theorem dX9_count_69 : decode cX9_count 69 = .ok (.getfield 84, 3) := by decide +kernel
theorem dX9_count_72 : decode cX9_count 72 = .ok (.ireturn, 1) := by decide +kernel
theorem dX9_count_73 : decode cX9_count 73 = .ok (.ldc 79, 2) := by decide +kernel
theorem dX9_count_75 : decode cX9_count 75 = .ok (.ireturn, 1) := by decide +kernel
theorem dX9_isOutside_0 : decode cX9_isOutside 0 = .ok (.iload_n 0, 1) := by decide +kernel
theorem dX9_isOutside_1 : decode cX9_isOutside 1 = .ok (.iload_n 1, 1) := by decide +kernel
theorem dX9_isOutside_2 : decode cX9_isOutside 2 = .ok (.if_icmp .lt 8, 3) := by decide +kernel
theorem dX9_isOutside_5 : decode cX9_isOutside 5 = .ok (.iload_n 0, 1) := by decide +kernel
theorem dX9_isOutside_6 : decode cX9_isOutside 6 = .ok (.iload_n 2, 1) := by decide +kernel
theorem dX9_isOutside_7 : decode cX9_isOutside 7 = .ok (.if_icmp .le 7, 3) := by decide +kernel
theorem dX9_isOutside_10 : decode cX9_isOutside 10 = .ok (.iconst 1, 1) := by decide +kernel
theorem dX9_isOutside_11 : decode cX9_isOutside 11 = .ok (.goto 4, 3) := by decide +kernel
theorem dX9_isOutside_14 : decode cX9_isOutside 14 = .ok (.iconst 0, 1) := by decide +kernel
theorem dX9_isOutside_15 : decode cX9_isOutside 15 = .ok (.ireturn, 1) := by decide +kernel
set_option maxRecDepth 20000 in
theorem ggX9_isNoWhole_X9_isOutside : GoodIn wsX9_isNoWhole wsX9_isOutside := goodIn_r _ [4] (by decide +kernel) (by decide +kernel)
set_option maxRecDepth 20000 in
theorem gX9_isNoWhole_X9_isOutside : GoodIn wsX9_isNoWhole (va_wsS RX9 75 yX9_isOutside wsX9_isOutside) := goodIn_app (goodIn_of _ (by decide +kernel)) ggX9_isNoWhole_X9_isOutside
theorem dX9_isNoWhole_0 : decode cX9_isNoWhole 0 = .ok (.iload_n 0, 1) := by decide +kernel
theorem dX9_isNoWhole_1 : decode cX9_isNoWhole 1 = .ok (.sipush (-9999), 3) := by decide +kernel
theorem dX9_isNoWhole_4 : decode cX9_isNoWhole 4 = .ok (.sipush 9999, 3) := by decide +kernel
theorem dX9_isNoWhole_7 : decode cX9_isNoWhole 7 = .ok (.invokestatic 75, 3) := by decide +kernel
theorem dX9_isNoWhole_10 : decode cX9_isNoWhole 10 = .ok (.ireturn, 1) := by decide +kernel
set_option maxRecDepth 20000 in
theorem ggX9_isNoOhms_X9_isOutside : GoodIn wsX9_isNoOhms wsX9_isOutside := goodIn_r _ [4] (by decide +kernel) (by decide +kernel)
set_option maxRecDepth 20000 in
theorem gX9_isNoOhms_X9_isOutside : GoodIn wsX9_isNoOhms (va_wsS RX9 75 yX9_isOutside wsX9_isOutside) := goodIn_app (goodIn_of _ (by decide +kernel)) ggX9_isNoOhms_X9_isOutside
theorem dX9_isNoOhms_0 : decode cX9_isNoOhms 0 = .ok (.iload_n 0, 1) := by decide +kernel
theorem dX9_isNoOhms_1 : decode cX9_isNoOhms 1 = .ok (.iconst 0, 1) := by decide +kernel
theorem dX9_isNoOhms_2 : decode cX9_isNoOhms 2 = .ok (.bipush 9, 2) := by decide +kernel
theorem dX9_isNoOhms_4 : decode cX9_isNoOhms 4 = .ok (.invokestatic 75, 3) := by decide +kernel
theorem dX9_isNoOhms_7 : decode cX9_isNoOhms 7 = .ok (.ireturn, 1) := by decide +kernel
set_option maxRecDepth 20000 in
theorem ggX9_isNoSort_X9_isOutside : GoodIn wsX9_isNoSort wsX9_isOutside := goodIn_r _ [4] (by decide +kernel) (by decide +kernel)
set_option maxRecDepth 20000 in
theorem gX9_isNoSort_X9_isOutside : GoodIn wsX9_isNoSort (va_wsS RX9 75 yX9_isOutside wsX9_isOutside) := goodIn_app (goodIn_of _ (by decide +kernel)) ggX9_isNoSort_X9_isOutside
theorem dX9_isNoSort_0 : decode cX9_isNoSort 0 = .ok (.iload_n 0, 1) := by decide +kernel
theorem dX9_isNoSort_1 : decode cX9_isNoSort 1 = .ok (.iconst 0, 1) := by decide +kernel
theorem dX9_isNoSort_2 : decode cX9_isNoSort 2 = .ok (.iconst 3, 1) := by decide +kernel
theorem dX9_isNoSort_3 : decode cX9_isNoSort 3 = .ok (.invokestatic 75, 3) := by decide +kernel
theorem dX9_isNoSort_6 : decode cX9_isNoSort 6 = .ok (.ireturn, 1) := by decide +kernel
set_option maxRecDepth 20000 in
theorem ggX9_isNoPhase_X9_isOutside : GoodIn wsX9_isNoPhase wsX9_isOutside := goodIn_r _ [4] (by decide +kernel) (by decide +kernel)
set_option maxRecDepth 20000 in
theorem gX9_isNoPhase_X9_isOutside : GoodIn wsX9_isNoPhase (va_wsS RX9 75 yX9_isOutside wsX9_isOutside) := goodIn_app (goodIn_of _ (by decide +kernel)) ggX9_isNoPhase_X9_isOutside
theorem dX9_isNoPhase_0 : decode cX9_isNoPhase 0 = .ok (.iload_n 0, 1) := by decide +kernel
theorem dX9_isNoPhase_1 : decode cX9_isNoPhase 1 = .ok (.iconst 0, 1) := by decide +kernel
theorem dX9_isNoPhase_2 : decode cX9_isNoPhase 2 = .ok (.iconst 2, 1) := by decide +kernel
theorem dX9_isNoPhase_3 : decode cX9_isNoPhase 3 = .ok (.invokestatic 75, 3) := by decide +kernel
theorem dX9_isNoPhase_6 : decode cX9_isNoPhase 6 = .ok (.ireturn, 1) := by decide +kernel
set_option maxRecDepth 20000 in
theorem ggX9_isNoStore_X9_isOutside : GoodIn wsX9_isNoStore wsX9_isOutside := goodIn_r _ [4] (by decide +kernel) (by decide +kernel)
set_option maxRecDepth 20000 in
theorem gX9_isNoStore_X9_isOutside : GoodIn wsX9_isNoStore (va_wsS RX9 75 yX9_isOutside wsX9_isOutside) := goodIn_app (goodIn_of _ (by decide +kernel)) ggX9_isNoStore_X9_isOutside
theorem dX9_isNoStore_0 : decode cX9_isNoStore 0 = .ok (.iload_n 0, 1) := by decide +kernel
theorem dX9_isNoStore_1 : decode cX9_isNoStore 1 = .ok (.iconst 0, 1) := by decide +kernel
theorem dX9_isNoStore_2 : decode cX9_isNoStore 2 = .ok (.iconst 2, 1) := by decide +kernel
theorem dX9_isNoStore_3 : decode cX9_isNoStore 3 = .ok (.invokestatic 75, 3) := by decide +kernel
theorem dX9_isNoStore_6 : decode cX9_isNoStore 6 = .ok (.ireturn, 1) := by decide +kernel
set_option maxRecDepth 20000 in
theorem ggX9_isNoBus_X9_isOutside : GoodIn wsX9_isNoBus wsX9_isOutside := goodIn_r _ [6] (by decide +kernel) (by decide +kernel)
set_option maxRecDepth 20000 in
theorem gX9_isNoBus_X9_isOutside : GoodIn wsX9_isNoBus (va_wsS RX9 75 yX9_isOutside wsX9_isOutside) := goodIn_app (goodIn_of _ (by decide +kernel)) ggX9_isNoBus_X9_isOutside
theorem dX9_isNoBus_0 : decode cX9_isNoBus 0 = .ok (.iload_n 1, 1) := by decide +kernel
theorem dX9_isNoBus_1 : decode cX9_isNoBus 1 = .ok (.iconst 0, 1) := by decide +kernel
theorem dX9_isNoBus_2 : decode cX9_isNoBus 2 = .ok (.aload_n 0, 1) := by decide +kernel
theorem dX9_isNoBus_3 : decode cX9_isNoBus 3 = .ok (.getfield 19, 3) := by decide +kernel
theorem dX9_isNoBus_6 : decode cX9_isNoBus 6 = .ok (.getfield 244, 3) := by decide +kernel
theorem dX9_isNoBus_9 : decode cX9_isNoBus 9 = .ok (.iconst 1, 1) := by decide +kernel
theorem dX9_isNoBus_10 : decode cX9_isNoBus 10 = .ok (.isub, 1) := by decide +kernel
theorem dX9_isNoBus_11 : decode cX9_isNoBus 11 = .ok (.invokestatic 75, 3) := by decide +kernel
theorem dX9_isNoBus_14 : decode cX9_isNoBus 14 = .ok (.ireturn, 1) := by decide +kernel
theorem dX9_asBit_0 : decode cX9_asBit 0 = .ok (.iload_n 0, 1) := by decide +kernel
theorem dX9_asBit_1 : decode cX9_asBit 1 = .ok (.ifCond .eq 7, 3) := by decide +kernel
theorem dX9_asBit_4 : decode cX9_asBit 4 = .ok (.iconst 1, 1) := by decide +kernel
theorem dX9_asBit_5 : decode cX9_asBit 5 = .ok (.goto 4, 3) := by decide +kernel
theorem dX9_asBit_8 : decode cX9_asBit 8 = .ok (.iconst 0, 1) := by decide +kernel
theorem dX9_asBit_9 : decode cX9_asBit 9 = .ok (.ireturn, 1) := by decide +kernel
set_option maxRecDepth 20000 in
theorem ggX9_askFault_X9_isNoBus : GoodIn wsX9_askFault wsX9_isNoBus := goodIn_r _ [10, 4, 11, 12, 13, 9, 14, 42, 43, 44, 45, 46, 47, 48, 49, 50, 51, 52, 53, 54, 55, 56, 57, 58] (by decide +kernel) (by decide +kernel)
set_option maxRecDepth 20000 in
theorem gX9_askFault_X9_isNoBus : GoodIn wsX9_askFault (wsV RX9 103 RX9 yX9_isNoBus wsX9_isNoBus) := goodIn_app (goodIn_of _ (by decide +kernel)) ggX9_askFault_X9_isNoBus
set_option maxRecDepth 20000 in
theorem ggX9_askFault_X9_isNoSort : GoodIn wsX9_askFault wsX9_isNoSort := goodIn_r _ [17, 12, 13, 9, 14] (by decide +kernel) (by decide +kernel)
set_option maxRecDepth 20000 in
theorem gX9_askFault_X9_isNoSort : GoodIn wsX9_askFault (va_wsS RX9 258 yX9_isNoSort wsX9_isNoSort) := goodIn_app (goodIn_of _ (by decide +kernel)) ggX9_askFault_X9_isNoSort
set_option maxRecDepth 20000 in
theorem ggX9_askFault_X9_isNoOhms : GoodIn wsX9_askFault wsX9_isNoOhms := goodIn_r _ [20, 12, 13, 9, 14] (by decide +kernel) (by decide +kernel)
set_option maxRecDepth 20000 in
theorem gX9_askFault_X9_isNoOhms : GoodIn wsX9_askFault (va_wsS RX9 261 yX9_isNoOhms wsX9_isNoOhms) := goodIn_app (goodIn_of _ (by decide +kernel)) ggX9_askFault_X9_isNoOhms
set_option maxRecDepth 20000 in
theorem ggX9_askFault_X0_takeFault : GoodIn wsX9_askFault wsX0_takeFault := goodIn_r _ [25, 26, 27, 28, 29, 30, 31, 32, 33, 34, 35, 36, 37, 24, 38, 39, 40, 41, 54, 55, 56, 57, 58, 59, 60, 61, 62] (by decide +kernel) (by decide +kernel)
set_option maxRecDepth 20000 in
theorem gX9_askFault_X0_takeFault : GoodIn wsX9_askFault (wsV RX9 264 RX0 yX0_takeFault wsX0_takeFault) := goodIn_app (goodIn_of _ (by decide +kernel)) ggX9_askFault_X0_takeFault
