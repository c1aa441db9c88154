theorem dX10_layVoltage_70 : decode cX10_layVoltage 70 = .ok (.ineg, 1) := by decide +kernel
theorem dX10_layVoltage_71 : decode cX10_layVoltage 71 = .ok (.i2l, 1) := by decide +kernel
theorem dX10_layVoltage_72 : decode cX10_layVoltage 72 = .ok (.aload_n 0, 1) := by decide +kernel
theorem dX10_layVoltage_73 : decode cX10_layVoltage 73 = .ok (.getfield 58, 3) := by decide +kernel
theorem dX10_layVoltage_76 : decode cX10_layVoltage 76 = .ok (.iconst 2, 1) := by decide +kernel
theorem dX10_layVoltage_77 : decode cX10_layVoltage 77 = .ok (.laload, 1) := by decide +kernel
theorem dX10_layVoltage_78 : decode cX10_layVoltage 78 = .ok (.lmul, 1) := by decide +kernel
theorem dX10_layVoltage_79 : decode cX10_layVoltage 79 = .ok (.lastore, 1) := by decide +kernel
theorem dX10_layVoltage_80 : decode cX10_layVoltage 80 = .ok (.return_, 1) := by decide +kernel
theorem dX10_layPhases_0 : decode cX10_layPhases 0 = .ok (.aload_n 0, 1) := by decide +kernel
theorem dX10_layPhases_1 : decode cX10_layPhases 1 = .ok (.getfield 61, 3) := by decide +kernel
theorem dX10_layPhases_4 : decode cX10_layPhases 4 = .ok (.iconst 0, 1) := by decide +kernel
theorem dX10_layPhases_5 : decode cX10_layPhases 5 = .ok (.aload_n 0, 1) := by decide +kernel
theorem dX10_layPhases_6 : decode cX10_layPhases 6 = .ok (.getfield 58, 3) := by decide +kernel
theorem dX10_layPhases_9 : decode cX10_layPhases 9 = .ok (.iconst 0, 1) := by decide +kernel
theorem dX10_layPhases_10 : decode cX10_layPhases 10 = .ok (.laload, 1) := by decide +kernel
theorem dX10_layPhases_11 : decode cX10_layPhases 11 = .ok (.aload_n 0, 1) := by decide +kernel
theorem dX10_layPhases_12 : decode cX10_layPhases 12 = .ok (.getfield 58, 3) := by decide +kernel
theorem dX10_layPhases_15 : decode cX10_layPhases 15 = .ok (.iconst 1, 1) := by decide +kernel
theorem dX10_layPhases_16 : decode cX10_layPhases 16 = .ok (.laload, 1) := by decide +kernel
theorem dX10_layPhases_17 : decode cX10_layPhases 17 = .ok (.ladd, 1) := by decide +kernel
theorem dX10_layPhases_18 : decode cX10_layPhases 18 = .ok (.aload_n 0, 1) := by decide +kernel
theorem dX10_layPhases_19 : decode cX10_layPhases 19 = .ok (.getfield 58, 3) := by decide +kernel
theorem dX10_layPhases_22 : decode cX10_layPhases 22 = .ok (.iconst 2, 1) := by decide +kernel
theorem dX10_layPhases_23 : decode cX10_layPhases 23 = .ok (.laload, 1) := by decide +kernel
theorem dX10_layPhases_24 : decode cX10_layPhases 24 = .ok (.ladd, 1) := by decide +kernel
theorem dX10_layPhases_25 : decode cX10_layPhases 25 = .ok (.lastore, 1) := by decide +kernel
theorem dX10_layPhases_26 : decode cX10_layPhases 26 = .ok (.aload_n 0, 1) := by decide +kernel
theorem dX10_layPhases_27 : decode cX10_layPhases 27 = .ok (.getfield 61, 3) := by decide +kernel
theorem dX10_layPhases_30 : decode cX10_layPhases 30 = .ok (.iconst 1, 1) := by decide +kernel
theorem dX10_layPhases_31 : decode cX10_layPhases 31 = .ok (.lconst 0, 1) := by decide +kernel
theorem dX10_layPhases_32 : decode cX10_layPhases 32 = .ok (.lastore, 1) := by decide +kernel
theorem dX10_layPhases_33 : decode cX10_layPhases 33 = .ok (.aload_n 0, 1) := by decide +kernel
theorem dX10_layPhases_34 : decode cX10_layPhases 34 = .ok (.getfield 61, 3) := by decide +kernel
theorem dX10_layPhases_37 : decode cX10_layPhases 37 = .ok (.iconst 2, 1) := by decide +kernel
theorem dX10_layPhases_38 : decode cX10_layPhases 38 = .ok (.aload_n 0, 1) := by decide +kernel
theorem dX10_layPhases_39 : decode cX10_layPhases 39 = .ok (.getfield 58, 3) := by decide +kernel
theorem dX10_layPhases_42 : decode cX10_layPhases 42 = .ok (.iconst 0, 1) := by decide +kernel
theorem dX10_layPhases_43 : decode cX10_layPhases 43 = .ok (.laload, 1) := by decide +kernel
theorem dX10_layPhases_44 : decode cX10_layPhases 44 = .ok (.aload_n 0, 1) := by decide +kernel
theorem dX10_layPhases_45 : decode cX10_layPhases 45 = .ok (.getfield 58, 3) := by decide +kernel
theorem dX10_layPhases_48 : decode cX10_layPhases 48 = .ok (.iconst 1, 1) := by decide +kernel
theorem dX10_layPhases_49 : decode cX10_layPhases 49 = .ok (.laload, 1) := by decide +kernel
theorem dX10_layPhases_50 : decode cX10_layPhases 50 = .ok (.lsub, 1) := by decide +kernel
theorem dX10_layPhases_51 : decode cX10_layPhases 51 = .ok (.lastore, 1) := by decide +kernel
theorem dX10_layPhases_52 : decode cX10_layPhases 52 = .ok (.aload_n 0, 1) := by decide +kernel
theorem dX10_layPhases_53 : decode cX10_layPhases 53 = .ok (.getfield 61, 3) := by decide +kernel
theorem dX10_layPhases_56 : decode cX10_layPhases 56 = .ok (.iconst 3, 1) := by decide +kernel
theorem dX10_layPhases_57 : decode cX10_layPhases 57 = .ok (.aload_n 0, 1) := by decide +kernel
theorem dX10_layPhases_58 : decode cX10_layPhases 58 = .ok (.getfield 58, 3) := by decide +kernel
theorem dX10_layPhases_61 : decode cX10_layPhases 61 = .ok (.iconst 2, 1) := by decide +kernel
theorem dX10_layPhases_62 : decode cX10_layPhases 62 = .ok (.laload, 1) := by decide +kernel
theorem dX10_layPhases_63 : decode cX10_layPhases 63 = .ok (.aload_n 0, 1) := by decide +kernel
theorem dX10_layPhases_64 : decode cX10_layPhases 64 = .ok (.getfield 58, 3) := by decide +kernel
theorem dX10_layPhases_67 : decode cX10_layPhases 67 = .ok (.iconst 1, 1) := by decide +kernel
theorem dX10_layPhases_68 : decode cX10_layPhases 68 = .ok (.laload, 1) := by decide +kernel
theorem dX10_layPhases_69 : decode cX10_layPhases 69 = .ok (.lsub, 1) := by decide +kernel
theorem dX10_layPhases_70 : decode cX10_layPhases 70 = .ok (.lastore, 1) := by decide +kernel
theorem dX10_layPhases_71 : decode cX10_layPhases 71 = .ok (.aload_n 0, 1) := by decide +kernel
theorem dX10_layPhases_72 : decode cX10_layPhases 72 = .ok (.getfield 61, 3) := by decide +kernel
theorem dX10_layPhases_75 : decode cX10_layPhases 75 = .ok (.iconst 4, 1) := by decide +kernel
theorem dX10_layPhases_76 : decode cX10_layPhases 76 = .ok (.aload_n 0, 1) := by decide +kernel
theorem dX10_layPhases_77 : decode cX10_layPhases 77 = .ok (.getfield 58, 3) := by decide +kernel
theorem dX10_layPhases_80 : decode cX10_layPhases 80 = .ok (.iconst 0, 1) := by decide +kernel
theorem dX10_layPhases_81 : decode cX10_layPhases 81 = .ok (.laload, 1) := by decide +kernel
theorem dX10_layPhases_82 : decode cX10_layPhases 82 = .ok (.aload_n 0, 1) := by decide +kernel
theorem dX10_layPhases_83 : decode cX10_layPhases 83 = .ok (.getfield 58, 3) := by decide +kernel
theorem dX10_layPhases_86 : decode cX10_layPhases 86 = .ok (.iconst 2, 1) := by decide +kernel
theorem dX10_layPhases_87 : decode cX10_layPhases 87 = .ok (.laload, 1) := by decide +kernel
theorem dX10_layPhases_88 : decode cX10_layPhases 88 = .ok (.lsub, 1) := by decide +kernel
theorem dX10_layPhases_89 : decode cX10_layPhases 89 = .ok (.lastore, 1) := by decide +kernel
theorem dX10_layPhases_90 : decode cX10_layPhases 90 = .ok (.aload_n 0, 1) := by decide +kernel
theorem dX10_layPhases_91 : decode cX10_layPhases 91 = .ok (.getfield 61, 3) := by decide +kernel
theorem dX10_layPhases_94 : decode cX10_layPhases 94 = .ok (.iconst 5, 1) := by decide +kernel
theorem dX10_layPhases_95 : decode cX10_layPhases 95 = .ok (.aload_n 0, 1) := by decide +kernel
theorem dX10_layPhases_96 : decode cX10_layPhases 96 = .ok (.getfield 58, 3) := by decide +kernel
theorem dX10_layPhases_99 : decode cX10_layPhases 99 = .ok (.iconst 1, 1) := by decide +kernel
theorem dX10_layPhases_100 : decode cX10_layPhases 100 = .ok (.laload, 1) := by decide +kernel
theorem dX10_layPhases_101 : decode cX10_layPhases 101 = .ok (.aload_n 0, 1) := by decide +kernel
theorem dX10_layPhases_102 : decode cX10_layPhases 102 = .ok (.getfield 58, 3) := by decide +kernel
theorem dX10_layPhases_105 : decode cX10_layPhases 105 = .ok (.iconst 2, 1) := by decide +kernel
theorem dX10_layPhases_106 : decode cX10_layPhases 106 = .ok (.laload, 1) := by decide +kernel
theorem dX10_layPhases_107 : decode cX10_layPhases 107 = .ok (.lsub, 1) := by decide +kernel
theorem dX10_layPhases_108 : decode cX10_layPhases 108 = .ok (.lastore, 1) := by decide +kernel
theorem dX10_layPhases_109 : decode cX10_layPhases 109 = .ok (.return_, 1) := by decide +kernel
theorem dX10_normOf_0 : decode cX10_normOf 0 = .ok (.aload_n 0, 1) := by decide +kernel
theorem dX10_normOf_1 : decode cX10_normOf 1 = .ok (.getfield 61, 3) := by decide +kernel
theorem dX10_normOf_4 : decode cX10_normOf 4 = .ok (.iconst 2, 1) := by decide +kernel
theorem dX10_normOf_5 : decode cX10_normOf 5 = .ok (.iload_n 1, 1) := by decide +kernel
theorem dX10_normOf_6 : decode cX10_normOf 6 = .ok (.imul, 1) := by decide +kernel
theorem dX10_normOf_7 : decode cX10_normOf 7 = .ok (.laload, 1) := by decide +kernel
theorem dX10_normOf_8 : decode cX10_normOf 8 = .ok (.lstore_n 2, 1) := by decide +kernel
theorem dX10_normOf_9 : decode cX10_normOf 9 = .ok (.aload_n 0, 1) := by decide +kernel
theorem dX10_normOf_10 : decode cX10_normOf 10 = .ok (.getfield 61, 3) := by decide +kernel
theorem dX10_normOf_13 : decode cX10_normOf 13 = .ok (.iconst 2, 1) := by decide +kernel
theorem dX10_normOf_14 : decode cX10_normOf 14 = .ok (.iload_n 1, 1) := by decide +kernel
theorem dX10_normOf_15 : decode cX10_normOf 15 = .ok (.imul, 1) := by decide +kernel
theorem dX10_normOf_16 : decode cX10_normOf 16 = .ok (.iconst 1, 1) := by decide +kernel
theorem dX10_normOf_17 : decode cX10_normOf 17 = .ok (.iadd, 1) := by decide +kernel
theorem dX10_normOf_18 : decode cX10_normOf 18 = .ok (.laload, 1) := by decide +kernel
theorem dX10_normOf_19 : decode cX10_normOf 19 = .ok (.lstore 4, 2) := by decide +kernel
theorem dX10_normOf_21 : decode cX10_normOf 21 = .ok (.lload_n 2, 1) := by decide +kernel
theorem dX10_normOf_22 : decode cX10_normOf 22 = .ok (.lload_n 2, 1) := by decide +kernel
theorem dX10_normOf_23 : decode cX10_normOf 23 = .ok (.lmul, 1) := by decide +kernel
theorem dX10_normOf_24 : decode cX10_normOf 24 = .ok (.lload_n 2, 1) := by decide +kernel
theorem dX10_normOf_25 : decode cX10_normOf 25 = .ok (.lload 4, 2) := by decide +kernel
theorem dX10_normOf_27 : decode cX10_normOf 27 = .ok (.lmul, 1) := by decide +kernel
theorem dX10_normOf_28 : decode cX10_normOf 28 = .ok (.lsub, 1) := by decide +kernel
theorem dX10_normOf_29 : decode cX10_normOf 29 = .ok (.lload 4, 2) := by decide +kernel
theorem dX10_normOf_31 : decode cX10_normOf 31 = .ok (.lload 4, 2) := by decide +kernel
theorem dX10_normOf_33 : decode cX10_normOf 33 = .ok (.lmul, 1) := by decide +kernel
theorem dX10_normOf_34 : decode cX10_normOf 34 = .ok (.ladd, 1) := by decide +kernel
theorem dX10_normOf_35 : decode cX10_normOf 35 = .ok (.lreturn, 1) := by decide +kernel
set_option maxRecDepth 20000 in
theorem ggX10_isSort_X10_in : GoodIn wsX10_isSort wsX10_in := goodIn_r _ [6] (by decide +kernel) (by decide +kernel)
set_option maxRecDepth 20000 in
theorem gX10_isSort_X10_in : GoodIn wsX10_isSort (va_wsS RX10 66 yX10_in wsX10_in) := goodIn_app (goodIn_of _ (by decide +kernel)) ggX10_isSort_X10_in
theorem dX10_isSort_0 : decode cX10_isSort 0 = .ok (.iload_n 0, 1) := by decide +kernel
theorem dX10_isSort_1 : decode cX10_isSort 1 = .ok (.i2l, 1) := by decide +kernel
theorem dX10_isSort_2 : decode cX10_isSort 2 = .ok (.lconst 0, 1) := by decide +kernel
theorem dX10_isSort_3 : decode cX10_isSort 3 = .ok (.ldc2_w 188, 3) := by decide +kernel
theorem dX10_isSort_6 : decode cX10_isSort 6 = .ok (.invokestatic 66, 3) := by decide +kernel
theorem dX10_isSort_9 : decode cX10_isSort 9 = .ok (.ifCond .eq 19, 3) := by decide +kernel
theorem dX10_isSort_12 : decode cX10_isSort 12 = .ok (.iload_n 1, 1) := by decide +kernel
theorem dX10_isSort_13 : decode cX10_isSort 13 = .ok (.i2l, 1) := by decide +kernel
theorem dX10_isSort_14 : decode cX10_isSort 14 = .ok (.lconst 0, 1) := by decide +kernel
theorem dX10_isSort_15 : decode cX10_isSort 15 = .ok (.ldc2_w 250, 3) := by decide +kernel
theorem dX10_isSort_18 : decode cX10_isSort 18 = .ok (.invokestatic 66, 3) := by decide +kernel
theorem dX10_isSort_21 : decode cX10_isSort 21 = .ok (.ifCond .eq 7, 3) := by decide +kernel
theorem dX10_isSort_24 : decode cX10_isSort 24 = .ok (.iconst 1, 1) := by decide +kernel
theorem dX10_isSort_25 : decode cX10_isSort 25 = .ok (.goto 4, 3) := by decide +kernel
theorem dX10_isSort_28 : decode cX10_isSort 28 = .ok (.iconst 0, 1) := by decide +kernel
theorem dX10_isSort_29 : decode cX10_isSort 29 = .ok (.ireturn, 1) := by decide +kernel
set_option maxRecDepth 20000 in
theorem ggX10_load_X10_isBus : GoodIn wsX10_load wsX10_isBus := goodIn_r _ [10, 11, 12, 13, 9, 14, 54, 55, 56, 57, 58, 59, 60, 61, 62, 63, 64, 65, 66, 67, 68, 69, 70, 71, 72, 73, 74, 75, 76, 77, 78, 79] (by decide +kernel) (by decide +kernel)
set_option maxRecDepth 20000 in
theorem gX10_load_X10_isBus : GoodIn wsX10_load (wsV RX10 142 RX10 yX10_isBus wsX10_isBus) := goodIn_app (goodIn_of _ (by decide +kernel)) ggX10_load_X10_isBus
set_option maxRecDepth 20000 in
theorem ggX10_load_X10_isSort : GoodIn wsX10_load wsX10_isSort := goodIn_r _ [17, 18, 19, 12, 13, 9, 14] (by decide +kernel) (by decide +kernel)
set_option maxRecDepth 20000 in
theorem gX10_load_X10_isSort : GoodIn wsX10_load (va_wsS RX10 252 yX10_isSort wsX10_isSort) := goodIn_app (goodIn_of _ (by decide +kernel)) ggX10_load_X10_isSort
set_option maxRecDepth 20000 in
theorem ggX10_load_X10_layFault : GoodIn wsX10_load wsX10_layFault := goodIn_r _ [23, 18, 24, 25, 3, 26, 27, 28, 9, 29, 30, 31, 54, 55, 56, 57, 58, 59, 60, 61, 62, 63, 64, 65, 66, 67, 68, 69, 70, 71, 72, 73, 74, 75, 76, 77, 78, 79] (by decide +kernel) (by decide +kernel)
set_option maxRecDepth 20000 in
theorem gX10_load_X10_layFault : GoodIn wsX10_load (wsV RX10 255 RX10 yX10_layFault wsX10_layFault) := goodIn_app (goodIn_of _ (by decide +kernel)) ggX10_load_X10_layFault
set_option maxRecDepth 20000 in
theorem ggX10_load_X10_keepPast : GoodIn wsX10_load wsX10_keepPast := goodIn_r _ [35, 36, 37, 38, 39, 40, 41, 9, 42, 54, 55, 56, 57, 58, 59, 60, 61, 62, 63, 64, 65, 66, 67, 68, 69, 70, 71, 72, 73, 74, 75, 76, 77, 78, 79] (by decide +kernel) (by decide +kernel)
set_option maxRecDepth 20000 in
theorem gX10_load_X10_keepPast : GoodIn wsX10_load (wsV RX10 206 RX10 yX10_keepPast wsX10_keepPast) := goodIn_app (goodIn_of _ (by decide +kernel)) ggX10_load_X10_keepPast
set_option maxRecDepth 20000 in
theorem ggX10_load_X10_layPhases : GoodIn wsX10_load wsX10_layPhases := goodIn_r _ [46, 5, 24, 54, 55, 56, 57, 58, 59, 60, 61, 62, 63, 64, 65, 66, 67, 68, 69, 70, 71, 72, 73, 74, 75, 76, 77, 78, 79] (by decide +kernel) (by decide +kernel)
set_option maxRecDepth 20000 in
theorem gX10_load_X10_layPhases : GoodIn wsX10_load (wsV RX10 258 RX10 yX10_layPhases wsX10_layPhases) := goodIn_app (goodIn_of _ (by decide +kernel)) ggX10_load_X10_layPhases
set_option maxRecDepth 20000 in
theorem ggX10_load_X10_lay : GoodIn wsX10_load wsX10_lay := goodIn_r _ [50, 37, 38, 51, 52, 9, 53, 54, 55, 56, 57, 58, 59, 60, 61, 62, 63, 64, 65, 66, 67, 68, 69, 70, 71, 72, 73, 74, 75, 76, 77, 78, 79] (by decide +kernel) (by decide +kernel)
set_option maxRecDepth 20000 in
theorem gX10_load_X10_lay : GoodIn wsX10_load (wsV RX10 158 RX10 yX10_lay wsX10_lay) := goodIn_app (goodIn_of _ (by decide +kernel)) ggX10_load_X10_lay
theorem dX10_load_0 : decode cX10_load 0 = .ok (.aload_n 0, 1) := by decide +kernel
theorem dX10_load_1 : decode cX10_load 1 = .ok (.iload_n 2, 1) := by decide +kernel
theorem dX10_load_2 : decode cX10_load 2 = .ok (.invokevirtual 142, 3) := by decide +kernel
theorem dX10_load_5 : decode cX10_load 5 = .ok (.ifCond .ne 6, 3) := by decide +kernel
theorem dX10_load_8 : decode cX10_load 8 = .ok (.ldc 145, 2) := by decide +kernel
theorem dX10_load_10 : decode cX10_load 10 = .ok (.ireturn, 1) := by decide +kernel
theorem dX10_load_11 : decode cX10_load 11 = .ok (.iload_n 1, 1) := by decide +kernel
theorem dX10_load_12 : decode cX10_load 12 = .ok (.iload_n 3, 1) := by decide +kernel
theorem dX10_load_13 : decode cX10_load 13 = .ok (.invokestatic 252, 3) := by decide +kernel
theorem dX10_load_16 : decode cX10_load 16 = .ok (.ifCond .ne 6, 3) := by decide +kernel
theorem dX10_load_19 : decode cX10_load 19 = .ok (.ldc 70, 2) := by decide +kernel
theorem dX10_load_21 : decode cX10_load 21 = .ok (.ireturn, 1) := by decide +kernel
theorem dX10_load_22 : decode cX10_load 22 = .ok (.aload_n 0, 1) := by decide +kernel
theorem dX10_load_23 : decode cX10_load 23 = .ok (.iload_n 1, 1) := by decide +kernel
theorem dX10_load_24 : decode cX10_load 24 = .ok (.iload_n 2, 1) := by decide +kernel
theorem dX10_load_25 : decode cX10_load 25 = .ok (.iload_n 3, 1) := by decide +kernel
theorem dX10_load_26 : decode cX10_load 26 = .ok (.invokevirtual 255, 3) := by decide +kernel
theorem dX10_load_29 : decode cX10_load 29 = .ok (.aload_n 0, 1) := by decide +kernel
theorem dX10_load_30 : decode cX10_load 30 = .ok (.getfield 243, 3) := by decide +kernel
theorem dX10_load_33 : decode cX10_load 33 = .ok (.lconst 0, 1) := by decide +kernel
theorem dX10_load_34 : decode cX10_load 34 = .ok (.lcmp, 1) := by decide +kernel
theorem dX10_load_35 : decode cX10_load 35 = .ok (.ifCond .ne 6, 3) := by decide +kernel
theorem dX10_load_38 : decode cX10_load 38 = .ok (.ldc 74, 2) := by decide +kernel
theorem dX10_load_40 : decode cX10_load 40 = .ok (.ireturn, 1) := by decide +kernel
theorem dX10_load_41 : decode cX10_load 41 = .ok (.aload_n 0, 1) := by decide +kernel
theorem dX10_load_42 : decode cX10_load 42 = .ok (.invokevirtual 206, 3) := by decide +kernel
theorem dX10_load_45 : decode cX10_load 45 = .ok (.aload_n 0, 1) := by decide +kernel
theorem dX10_load_46 : decode cX10_load 46 = .ok (.invokevirtual 258, 3) := by decide +kernel
theorem dX10_load_49 : decode cX10_load 49 = .ok (.iconst 0, 1) := by decide +kernel
theorem dX10_load_50 : decode cX10_load 50 = .ok (.istore 4, 2) := by decide +kernel
theorem dX10_load_52 : decode cX10_load 52 = .ok (.iload 4, 2) := by decide +kernel
theorem dX10_load_54 : decode cX10_load 54 = .ok (.bipush 6, 2) := by decide +kernel
theorem dX10_load_56 : decode cX10_load 56 = .ok (.if_icmp .ge 26, 3) := by decide +kernel
theorem dX10_load_59 : decode cX10_load 59 = .ok (.aload_n 0, 1) := by decide +kernel
theorem dX10_load_60 : decode cX10_load 60 = .ok (.iload 4, 2) := by decide +kernel
theorem dX10_load_62 : decode cX10_load 62 = .ok (.aload_n 0, 1) := by decide +kernel
theorem dX10_load_63 : decode cX10_load 63 = .ok (.getfield 61, 3) := by decide +kernel
theorem dX10_load_66 : decode cX10_load 66 = .ok (.iload 4, 2) := by decide +kernel
theorem dX10_load_68 : decode cX10_load 68 = .ok (.laload, 1) := by decide +kernel
theorem dX10_load_69 : decode cX10_load 69 = .ok (.aload_n 0, 1) := by decide +kernel
theorem dX10_load_70 : decode cX10_load 70 = .ok (.getfield 243, 3) := by decide +kernel
theorem dX10_load_73 : decode cX10_load 73 = .ok (.invokevirtual 158, 3) := by decide +kernel
theorem dX10_load_76 : decode cX10_load 76 = .ok (.iinc 4 1, 3) := by decide +kernel
theorem dX10_load_79 : decode cX10_load 79 = .ok (.goto (-27), 3) := by decide +kernel
theorem dX10_load_82 : decode cX10_load 82 = .ok (.iconst 1, 1) := by decide +kernel
theorem dX10_load_83 : decode cX10_load 83 = .ok (.ireturn, 1) := by decide +kernel
set_option maxRecDepth 20000 in
theorem ggX10_tells_X10_normOf : GoodIn wsX10_tells wsX10_normOf := goodIn_r _ [7, 2, 21, 22, 23, 24, 25, 26, 27, 28, 29, 30, 31, 32, 33, 34, 35, 36, 37, 38, 39, 40, 41, 42, 43, 44, 45, 46] (by decide +kernel) (by decide +kernel)
set_option maxRecDepth 20000 in
theorem gX10_tells_X10_normOf : GoodIn wsX10_tells (wsV RX10 261 RX10 yX10_normOf wsX10_normOf) := goodIn_app (goodIn_of _ (by decide +kernel)) ggX10_tells_X10_normOf
set_option maxRecDepth 20000 in
theorem ggX10_tells_X10_lay : GoodIn wsX10_tells wsX10_lay := goodIn_r _ [11, 12, 13, 14, 15, 6, 16, 21, 22, 23, 24, 25, 26, 27, 28, 29, 30, 31, 32, 33, 34, 35, 36, 37, 38, 39, 40, 41, 42, 43, 44, 45, 46] (by decide +kernel) (by decide +kernel)
set_option maxRecDepth 20000 in
theorem gX10_tells_X10_lay : GoodIn wsX10_tells (wsV RX10 158 RX10 yX10_lay wsX10_lay) := goodIn_app (goodIn_of _ (by decide +kernel)) ggX10_tells_X10_lay
set_option maxRecDepth 20000 in
theorem ggX10_tells_X10_partOf : GoodIn wsX10_tells wsX10_partOf := goodIn_r _ [20, 12, 13, 21, 22, 23, 24, 25, 26, 27, 28, 29, 30, 31, 32, 33, 34, 35, 36, 37, 38, 39, 40, 41, 42, 43, 44, 45, 46] (by decide +kernel) (by decide +kernel)
set_option maxRecDepth 20000 in
theorem gX10_tells_X10_partOf : GoodIn wsX10_tells (wsV RX10 224 RX10 yX10_partOf wsX10_partOf) := goodIn_app (goodIn_of _ (by decide +kernel)) ggX10_tells_X10_partOf
theorem dX10_tells_0 : decode cX10_tells 0 = .ok (.iload_n 2, 1) := by decide +kernel
theorem dX10_tells_1 : decode cX10_tells 1 = .ok (.iconst 2, 1) := by decide +kernel
theorem dX10_tells_2 : decode cX10_tells 2 = .ok (.if_icmp .ne 26, 3) := by decide +kernel
theorem dX10_tells_5 : decode cX10_tells 5 = .ok (.aload_n 0, 1) := by decide +kernel
theorem dX10_tells_6 : decode cX10_tells 6 = .ok (.bipush 78, 2) := by decide +kernel
theorem dX10_tells_8 : decode cX10_tells 8 = .ok (.aload_n 0, 1) := by decide +kernel
theorem dX10_tells_9 : decode cX10_tells 9 = .ok (.iload_n 1, 1) := by decide +kernel
theorem dX10_tells_10 : decode cX10_tells 10 = .ok (.invokevirtual 261, 3) := by decide +kernel
theorem dX10_tells_13 : decode cX10_tells 13 = .ok (.aload_n 0, 1) := by decide +kernel
theorem dX10_tells_14 : decode cX10_tells 14 = .ok (.getfield 243, 3) := by decide +kernel
theorem dX10_tells_17 : decode cX10_tells 17 = .ok (.aload_n 0, 1) := by decide +kernel
theorem dX10_tells_18 : decode cX10_tells 18 = .ok (.getfield 243, 3) := by decide +kernel
theorem dX10_tells_21 : decode cX10_tells 21 = .ok (.lmul, 1) := by decide +kernel
theorem dX10_tells_22 : decode cX10_tells 22 = .ok (.invokevirtual 158, 3) := by decide +kernel
theorem dX10_tells_25 : decode cX10_tells 25 = .ok (.goto 23, 3) := by decide +kernel
theorem dX10_tells_28 : decode cX10_tells 28 = .ok (.aload_n 0, 1) := by decide +kernel
theorem dX10_tells_29 : decode cX10_tells 29 = .ok (.bipush 78, 2) := by decide +kernel
theorem dX10_tells_31 : decode cX10_tells 31 = .ok (.aload_n 0, 1) := by decide +kernel
theorem dX10_tells_32 : decode cX10_tells 32 = .ok (.getfield 61, 3) := by decide +kernel
theorem dX10_tells_35 : decode cX10_tells 35 = .ok (.iconst 2, 1) := by decide +kernel
theorem dX10_tells_36 : decode cX10_tells 36 = .ok (.iload_n 1, 1) := by decide +kernel
theorem dX10_tells_37 : decode cX10_tells 37 = .ok (.imul, 1) := by decide +kernel
theorem dX10_tells_38 : decode cX10_tells 38 = .ok (.iload_n 2, 1) := by decide +kernel
theorem dX10_tells_39 : decode cX10_tells 39 = .ok (.iadd, 1) := by decide +kernel
theorem dX10_tells_40 : decode cX10_tells 40 = .ok (.laload, 1) := by decide +kernel
theorem dX10_tells_41 : decode cX10_tells 41 = .ok (.aload_n 0, 1) := by decide +kernel
theorem dX10_tells_42 : decode cX10_tells 42 = .ok (.getfield 243, 3) := by decide +kernel
theorem dX10_tells_45 : decode cX10_tells 45 = .ok (.invokevirtual 158, 3) := by decide +kernel
theorem dX10_tells_48 : decode cX10_tells 48 = .ok (.aload_n 0, 1) := by decide +kernel
theorem dX10_tells_49 : decode cX10_tells 49 = .ok (.bipush 78, 2) := by decide +kernel
theorem dX10_tells_51 : decode cX10_tells 51 = .ok (.iload_n 3, 1) := by decide +kernel
theorem dX10_tells_52 : decode cX10_tells 52 = .ok (.invokevirtual 224, 3) := by decide +kernel
theorem dX10_tells_55 : decode cX10_tells 55 = .ok (.lreturn, 1) := by decide +kernel
set_option maxRecDepth 20000 in
theorem ggX10_current_X10_isBus : GoodIn wsX10_current wsX10_isBus := goodIn_r _ [10, 11, 12, 13, 9, 14, 61, 62, 63, 64, 65, 66, 67, 68, 69, 70, 71, 72, 73, 74, 75, 76, 77, 78, 79, 80, 81, 82, 83, 84, 85, 86] (by decide +kernel) (by decide +kernel)
set_option maxRecDepth 20000 in
theorem gX10_current_X10_isBus : GoodIn wsX10_current (wsV RX10 142 RX10 yX10_isBus wsX10_isBus) := goodIn_app (goodIn_of _ (by decide +kernel)) ggX10_current_X10_isBus
set_option maxRecDepth 20000 in
theorem ggX10_current_X10_isPhase : GoodIn wsX10_current wsX10_isPhase := goodIn_r _ [17, 2, 12, 13, 9, 14] (by decide +kernel) (by decide +kernel)
set_option maxRecDepth 20000 in
theorem gX10_current_X10_isPhase : GoodIn wsX10_current (va_wsS RX10 199 yX10_isPhase wsX10_isPhase) := goodIn_app (goodIn_of _ (by decide +kernel)) ggX10_current_X10_isPhase
set_option maxRecDepth 20000 in
theorem ggX10_current_X10_isSort : GoodIn wsX10_current wsX10_isSort := goodIn_r _ [20, 21, 22, 12, 13, 9, 14] (by decide +kernel) (by decide +kernel)
set_option maxRecDepth 20000 in
theorem gX10_current_X10_isSort : GoodIn wsX10_current (va_wsS RX10 252 yX10_isSort wsX10_isSort) := goodIn_app (goodIn_of _ (by decide +kernel)) ggX10_current_X10_isSort
set_option maxRecDepth 20000 in
theorem ggX10_current_X10_in : GoodIn wsX10_current wsX10_in := goodIn_r _ [14] (by decide +kernel) (by decide +kernel)
set_option maxRecDepth 20000 in
theorem gX10_current_X10_in : GoodIn wsX10_current (va_wsS RX10 66 yX10_in wsX10_in) := goodIn_app (goodIn_of _ (by decide +kernel)) ggX10_current_X10_in
set_option maxRecDepth 20000 in
theorem ggX10_current_X10_layFault : GoodIn wsX10_current wsX10_layFault := goodIn_r _ [26, 21, 27, 28, 4, 29, 30, 31, 9, 32, 33, 34, 61, 62, 63, 64, 65, 66, 67, 68, 69, 70, 71, 72, 73, 74, 75, 76, 77, 78, 79, 80, 81, 82, 83, 84, 85, 86] (by decide +kernel) (by decide +kernel)
set_option maxRecDepth 20000 in
theorem gX10_current_X10_layFault : GoodIn wsX10_current (wsV RX10 255 RX10 yX10_layFault wsX10_layFault) := goodIn_app (goodIn_of _ (by decide +kernel)) ggX10_current_X10_layFault
set_option maxRecDepth 20000 in
theorem ggX10_current_X10_layPhases : GoodIn wsX10_current wsX10_layPhases := goodIn_r _ [38, 39, 27, 61, 62, 63, 64, 65, 66, 67, 68, 69, 70, 71, 72, 73, 74, 75, 76, 77, 78, 79, 80, 81, 82, 83, 84, 85, 86] (by decide +kernel) (by decide +kernel)
set_option maxRecDepth 20000 in
theorem gX10_current_X10_layPhases : GoodIn wsX10_current (wsV RX10 258 RX10 yX10_layPhases wsX10_layPhases) := goodIn_app (goodIn_of _ (by decide +kernel)) ggX10_current_X10_layPhases
set_option maxRecDepth 20000 in
theorem ggX10_current_X10_tells : GoodIn wsX10_current wsX10_tells := goodIn_r _ [43, 4, 39, 44, 45, 46, 9, 47, 48, 49, 50, 51, 52, 53, 54, 55, 56, 57, 58, 59, 60, 61, 62, 63, 64, 65, 66, 67, 68, 69, 70, 71, 72, 73, 74, 75, 76, 77, 78, 79, 80, 81, 82, 83, 84, 85, 86] (by decide +kernel) (by decide +kernel)
set_option maxRecDepth 20000 in
theorem gX10_current_X10_tells : GoodIn wsX10_current (wsV RX10 267 RX10 yX10_tells wsX10_tells) := goodIn_app (goodIn_of _ (by decide +kernel)) ggX10_current_X10_tells
theorem dX10_current_0 : decode cX10_current 0 = .ok (.aload_n 0, 1) := by decide +kernel
theorem dX10_current_1 : decode cX10_current 1 = .ok (.iload_n 2, 1) := by decide +kernel
theorem dX10_current_2 : decode cX10_current 2 = .ok (.invokevirtual 142, 3) := by decide +kernel
theorem dX10_current_5 : decode cX10_current 5 = .ok (.ifCond .eq 11, 3) := by decide +kernel
theorem dX10_current_8 : decode cX10_current 8 = .ok (.iload 4, 2) := by decide +kernel
theorem dX10_current_10 : decode cX10_current 10 = .ok (.invokestatic 199, 3) := by decide +kernel
theorem dX10_current_13 : decode cX10_current 13 = .ok (.ifCond .ne 7, 3) := by decide +kernel
theorem dX10_current_16 : decode cX10_current 16 = .ok (.ldc2_w 220, 3) := by decide +kernel
theorem dX10_current_19 : decode cX10_current 19 = .ok (.lreturn, 1) := by decide +kernel
theorem dX10_current_20 : decode cX10_current 20 = .ok (.iload_n 1, 1) := by decide +kernel
theorem dX10_current_21 : decode cX10_current 21 = .ok (.iload_n 3, 1) := by decide +kernel
theorem dX10_current_22 : decode cX10_current 22 = .ok (.invokestatic 252, 3) := by decide +kernel
theorem dX10_current_25 : decode cX10_current 25 = .ok (.ifCond .eq 27, 3) := by decide +kernel
theorem dX10_current_28 : decode cX10_current 28 = .ok (.iload 5, 2) := by decide +kernel
theorem dX10_current_30 : decode cX10_current 30 = .ok (.i2l, 1) := by decide +kernel
theorem dX10_current_31 : decode cX10_current 31 = .ok (.lconst 0, 1) := by decide +kernel
theorem dX10_current_32 : decode cX10_current 32 = .ok (.ldc2_w 197, 3) := by decide +kernel
theorem dX10_current_35 : decode cX10_current 35 = .ok (.invokestatic 66, 3) := by decide +kernel
theorem dX10_current_38 : decode cX10_current 38 = .ok (.ifCond .eq 14, 3) := by decide +kernel
theorem dX10_current_41 : decode cX10_current 41 = .ok (.iload 6, 2) := by decide +kernel
theorem dX10_current_43 : decode cX10_current 43 = .ok (.i2l, 1) := by decide +kernel
theorem dX10_current_44 : decode cX10_current 44 = .ok (.lconst 0, 1) := by decide +kernel
theorem dX10_current_45 : decode cX10_current 45 = .ok (.lconst 1, 1) := by decide +kernel
theorem dX10_current_46 : decode cX10_current 46 = .ok (.invokestatic 66, 3) := by decide +kernel
theorem dX10_current_49 : decode cX10_current 49 = .ok (.ifCond .ne 7, 3) := by decide +kernel
theorem dX10_current_52 : decode cX10_current 52 = .ok (.ldc2_w 222, 3) := by decide +kernel
theorem dX10_current_55 : decode cX10_current 55 = .ok (.lreturn, 1) := by decide +kernel
theorem dX10_current_56 : decode cX10_current 56 = .ok (.aload_n 0, 1) := by decide +kernel
theorem dX10_current_57 : decode cX10_current 57 = .ok (.iload_n 1, 1) := by decide +kernel
theorem dX10_current_58 : decode cX10_current 58 = .ok (.iload_n 2, 1) := by decide +kernel
theorem dX10_current_59 : decode cX10_current 59 = .ok (.iload_n 3, 1) := by decide +kernel
theorem dX10_current_60 : decode cX10_current 60 = .ok (.invokevirtual 255, 3) := by decide +kernel
theorem dX10_current_63 : decode cX10_current 63 = .ok (.aload_n 0, 1) := by decide +kernel
theorem dX10_current_64 : decode cX10_current 64 = .ok (.invokevirtual 258, 3) := by decide +kernel
theorem dX10_current_67 : decode cX10_current 67 = .ok (.aload_n 0, 1) := by decide +kernel
theorem dX10_current_68 : decode cX10_current 68 = .ok (.getfield 243, 3) := by decide +kernel
theorem dX10_current_71 : decode cX10_current 71 = .ok (.lconst 0, 1) := by decide +kernel
theorem dX10_current_72 : decode cX10_current 72 = .ok (.lcmp, 1) := by decide +kernel
theorem dX10_current_73 : decode cX10_current 73 = .ok (.ifCond .ne 9, 3) := by decide +kernel
theorem dX10_current_76 : decode cX10_current 76 = .ok (.ldc2_w 265, 3) := by decide +kernel
theorem dX10_current_79 : decode cX10_current 79 = .ok (.goto 13, 3) := by decide +kernel
theorem dX10_current_82 : decode cX10_current 82 = .ok (.aload_n 0, 1) := by decide +kernel
theorem dX10_current_83 : decode cX10_current 83 = .ok (.iload 4, 2) := by decide +kernel
theorem dX10_current_85 : decode cX10_current 85 = .ok (.iload 5, 2) := by decide +kernel
theorem dX10_current_87 : decode cX10_current 87 = .ok (.iload 6, 2) := by decide +kernel
theorem dX10_current_89 : decode cX10_current 89 = .ok (.invokevirtual 267, 3) := by decide +kernel
theorem dX10_current_92 : decode cX10_current 92 = .ok (.lreturn, 1) := by decide +kernel
set_option maxRecDepth 20000 in
theorem ggX10_voltage_X10_isBus : GoodIn wsX10_voltage wsX10_isBus := goodIn_r _ [10, 11, 12, 13, 9, 14, 69, 70, 71, 72, 73, 74, 75, 76, 77, 78, 79, 80, 81, 82, 83, 84, 85, 86, 87, 88, 89, 90, 91, 92, 93, 94] (by decide +kernel) (by decide +kernel)
set_option maxRecDepth 20000 in
theorem gX10_voltage_X10_isBus : GoodIn wsX10_voltage (wsV RX10 142 RX10 yX10_isBus wsX10_isBus) := goodIn_app (goodIn_of _ (by decide +kernel)) ggX10_voltage_X10_isBus
set_option maxRecDepth 20000 in
theorem ggX10_voltage_X10_isPhase : GoodIn wsX10_voltage wsX10_isPhase := goodIn_r _ [17, 2, 12, 13, 9, 14] (by decide +kernel) (by decide +kernel)
set_option maxRecDepth 20000 in
theorem gX10_voltage_X10_isPhase : GoodIn wsX10_voltage (va_wsS RX10 199 yX10_isPhase wsX10_isPhase) := goodIn_app (goodIn_of _ (by decide +kernel)) ggX10_voltage_X10_isPhase
set_option maxRecDepth 20000 in
theorem ggX10_voltage_X10_isSort : GoodIn wsX10_voltage wsX10_isSort := goodIn_r _ [20, 21, 22, 12, 13, 9, 14] (by decide +kernel) (by decide +kernel)
set_option maxRecDepth 20000 in
theorem gX10_voltage_X10_isSort : GoodIn wsX10_voltage (va_wsS RX10 252 yX10_isSort wsX10_isSort) := goodIn_app (goodIn_of _ (by decide +kernel)) ggX10_voltage_X10_isSort
set_option maxRecDepth 20000 in
theorem ggX10_voltage_X10_in : GoodIn wsX10_voltage wsX10_in := goodIn_r _ [14] (by decide +kernel) (by decide +kernel)
set_option maxRecDepth 20000 in
theorem gX10_voltage_X10_in : GoodIn wsX10_voltage (va_wsS RX10 66 yX10_in wsX10_in) := goodIn_app (goodIn_of _ (by decide +kernel)) ggX10_voltage_X10_in
set_option maxRecDepth 20000 in
theorem ggX10_voltage_X10_layFault : GoodIn wsX10_voltage wsX10_layFault := goodIn_r _ [26, 21, 27, 28, 4, 29, 30, 31, 9, 32, 33, 34, 69, 70, 71, 72, 73, 74, 75, 76, 77, 78, 79, 80, 81, 82, 83, 84, 85, 86, 87, 88, 89, 90, 91, 92, 93, 94] (by decide +kernel) (by decide +kernel)
set_option maxRecDepth 20000 in
theorem gX10_voltage_X10_layFault : GoodIn wsX10_voltage (wsV RX10 255 RX10 yX10_layFault wsX10_layFault) := goodIn_app (goodIn_of _ (by decide +kernel)) ggX10_voltage_X10_layFault
set_option maxRecDepth 20000 in
theorem ggX10_voltage_X10_layVoltage : GoodIn wsX10_voltage wsX10_layVoltage := goodIn_r _ [38, 27, 28, 4, 39, 40, 41, 9, 42, 34, 29, 30, 31, 32, 33, 69, 70, 71, 72, 73, 74, 75, 76, 77, 78, 79, 80, 81, 82, 83, 84, 85, 86, 87, 88, 89, 90, 91, 92, 93, 94] (by decide +kernel) (by decide +kernel)
set_option maxRecDepth 20000 in
theorem gX10_voltage_X10_layVoltage : GoodIn wsX10_voltage (wsV RX10 271 RX10 yX10_layVoltage wsX10_layVoltage) := goodIn_app (goodIn_of _ (by decide +kernel)) ggX10_voltage_X10_layVoltage
set_option maxRecDepth 20000 in
theorem ggX10_voltage_X10_layPhases : GoodIn wsX10_voltage wsX10_layPhases := goodIn_r _ [46, 47, 27, 69, 70, 71, 72, 73, 74, 75, 76, 77, 78, 79, 80, 81, 82, 83, 84, 85, 86, 87, 88, 89, 90, 91, 92, 93, 94] (by decide +kernel) (by decide +kernel)
set_option maxRecDepth 20000 in
theorem gX10_voltage_X10_layPhases : GoodIn wsX10_voltage (wsV RX10 258 RX10 yX10_layPhases wsX10_layPhases) := goodIn_app (goodIn_of _ (by decide +kernel)) ggX10_voltage_X10_layPhases
set_option maxRecDepth 20000 in
theorem ggX10_voltage_X10_tells : GoodIn wsX10_voltage wsX10_tells := goodIn_r _ [51, 4, 47, 52, 53, 54, 9, 55, 56, 57, 58, 59, 60, 61, 62, 63, 64, 65, 66, 67, 68, 69, 70, 71, 72, 73, 74, 75, 76, 77, 78, 79, 80, 81, 82, 83, 84, 85, 86, 87, 88, 89, 90, 91, 92, 93, 94] (by decide +kernel) (by decide +kernel)
set_option maxRecDepth 20000 in
theorem gX10_voltage_X10_tells : GoodIn wsX10_voltage (wsV RX10 267 RX10 yX10_tells wsX10_tells) := goodIn_app (goodIn_of _ (by decide +kernel)) ggX10_voltage_X10_tells
theorem dX10_voltage_0 : decode cX10_voltage 0 = .ok (.aload_n 0, 1) := by decide +kernel
theorem dX10_voltage_1 : decode cX10_voltage 1 = .ok (.iload_n 2, 1) := by decide +kernel
theorem dX10_voltage_2 : decode cX10_voltage 2 = .ok (.invokevirtual 142, 3) := by decide +kernel
theorem dX10_voltage_5 : decode cX10_voltage 5 = .ok (.ifCond .eq 20, 3) := by decide +kernel
theorem dX10_voltage_8 : decode cX10_voltage 8 = .ok (.aload_n 0, 1) := by decide +kernel
theorem dX10_voltage_9 : decode cX10_voltage 9 = .ok (.iload 4, 2) := by decide +kernel
theorem dX10_voltage_11 : decode cX10_voltage 11 = .ok (.invokevirtual 142, 3) := by decide +kernel
theorem dX10_voltage_14 : decode cX10_voltage 14 = .ok (.ifCond .eq 11, 3) := by decide +kernel
theorem dX10_voltage_17 : decode cX10_voltage 17 = .ok (.iload 5, 2) := by decide +kernel
theorem dX10_voltage_19 : decode cX10_voltage 19 = .ok (.invokestatic 199, 3) := by decide +kernel
theorem dX10_voltage_22 : decode cX10_voltage 22 = .ok (.ifCond .ne 7, 3) := by decide +kernel
theorem dX10_voltage_25 : decode cX10_voltage 25 = .ok (.ldc2_w 220, 3) := by decide +kernel
theorem dX10_voltage_28 : decode cX10_voltage 28 = .ok (.lreturn, 1) := by decide +kernel
theorem dX10_voltage_29 : decode cX10_voltage 29 = .ok (.iload_n 1, 1) := by decide +kernel
theorem dX10_voltage_30 : decode cX10_voltage 30 = .ok (.iload_n 3, 1) := by decide +kernel
theorem dX10_voltage_31 : decode cX10_voltage 31 = .ok (.invokestatic 252, 3) := by decide +kernel
theorem dX10_voltage_34 : decode cX10_voltage 34 = .ok (.ifCond .eq 27, 3) := by decide +kernel
theorem dX10_voltage_37 : decode cX10_voltage 37 = .ok (.iload 6, 2) := by decide +kernel
theorem dX10_voltage_39 : decode cX10_voltage 39 = .ok (.i2l, 1) := by decide +kernel
theorem dX10_voltage_40 : decode cX10_voltage 40 = .ok (.lconst 0, 1) := by decide +kernel
theorem dX10_voltage_41 : decode cX10_voltage 41 = .ok (.ldc2_w 197, 3) := by decide +kernel
theorem dX10_voltage_44 : decode cX10_voltage 44 = .ok (.invokestatic 66, 3) := by decide +kernel
theorem dX10_voltage_47 : decode cX10_voltage 47 = .ok (.ifCond .eq 14, 3) := by decide +kernel
theorem dX10_voltage_50 : decode cX10_voltage 50 = .ok (.iload 7, 2) := by decide +kernel
theorem dX10_voltage_52 : decode cX10_voltage 52 = .ok (.i2l, 1) := by decide +kernel
theorem dX10_voltage_53 : decode cX10_voltage 53 = .ok (.lconst 0, 1) := by decide +kernel
theorem dX10_voltage_54 : decode cX10_voltage 54 = .ok (.lconst 1, 1) := by decide +kernel
theorem dX10_voltage_55 : decode cX10_voltage 55 = .ok (.invokestatic 66, 3) := by decide +kernel
theorem dX10_voltage_58 : decode cX10_voltage 58 = .ok (.ifCond .ne 7, 3) := by decide +kernel
theorem dX10_voltage_61 : decode cX10_voltage 61 = .ok (.ldc2_w 222, 3) := by decide +kernel
theorem dX10_voltage_64 : decode cX10_voltage 64 = .ok (.lreturn, 1) := by decide +kernel
theorem dX10_voltage_65 : decode cX10_voltage 65 = .ok (.aload_n 0, 1) := by decide +kernel
theorem dX10_voltage_66 : decode cX10_voltage 66 = .ok (.iload_n 1, 1) := by decide +kernel
theorem dX10_voltage_67 : decode cX10_voltage 67 = .ok (.iload_n 2, 1) := by decide +kernel
theorem dX10_voltage_68 : decode cX10_voltage 68 = .ok (.iload_n 3, 1) := by decide +kernel
theorem dX10_voltage_69 : decode cX10_voltage 69 = .ok (.invokevirtual 255, 3) := by decide +kernel
theorem dX10_voltage_72 : decode cX10_voltage 72 = .ok (.aload_n 0, 1) := by decide +kernel
theorem dX10_voltage_73 : decode cX10_voltage 73 = .ok (.iload_n 2, 1) := by decide +kernel
theorem dX10_voltage_74 : decode cX10_voltage 74 = .ok (.iload 4, 2) := by decide +kernel
theorem dX10_voltage_76 : decode cX10_voltage 76 = .ok (.invokevirtual 271, 3) := by decide +kernel
theorem dX10_voltage_79 : decode cX10_voltage 79 = .ok (.aload_n 0, 1) := by decide +kernel
theorem dX10_voltage_80 : decode cX10_voltage 80 = .ok (.invokevirtual 258, 3) := by decide +kernel
theorem dX10_voltage_83 : decode cX10_voltage 83 = .ok (.aload_n 0, 1) := by decide +kernel
theorem dX10_voltage_84 : decode cX10_voltage 84 = .ok (.getfield 243, 3) := by decide +kernel
theorem dX10_voltage_87 : decode cX10_voltage 87 = .ok (.lconst 0, 1) := by decide +kernel
theorem dX10_voltage_88 : decode cX10_voltage 88 = .ok (.lcmp, 1) := by decide +kernel
theorem dX10_voltage_89 : decode cX10_voltage 89 = .ok (.ifCond .ne 9, 3) := by decide +kernel
theorem dX10_voltage_92 : decode cX10_voltage 92 = .ok (.ldc2_w 265, 3) := by decide +kernel
theorem dX10_voltage_95 : decode cX10_voltage 95 = .ok (.goto 13, 3) := by decide +kernel
theorem dX10_voltage_98 : decode cX10_voltage 98 = .ok (.aload_n 0, 1) := by decide +kernel
theorem dX10_voltage_99 : decode cX10_voltage 99 = .ok (.iload 5, 2) := by decide +kernel
theorem dX10_voltage_101 : decode cX10_voltage 101 = .ok (.iload 6, 2) := by decide +kernel
theorem dX10_voltage_103 : decode cX10_voltage 103 = .ok (.iload 7, 2) := by decide +kernel
theorem dX10_voltage_105 : decode cX10_voltage 105 = .ok (.invokevirtual 267, 3) := by decide +kernel
theorem dX10_voltage_108 : decode cX10_voltage 108 = .ok (.lreturn, 1) := by decide +kernel
set_option maxRecDepth 20000 in
theorem ggX10_sag_X10_isBus : GoodIn wsX10_sag wsX10_isBus := goodIn_r _ [13, 4, 14, 15, 12, 16, 50, 51, 52, 53, 54, 55, 56, 57, 58, 59, 60, 61, 62, 63, 64, 65, 66, 67, 68, 69, 70, 71, 72, 73, 74, 75] (by decide +kernel) (by decide +kernel)
set_option maxRecDepth 20000 in
theorem gX10_sag_X10_isBus : GoodIn wsX10_sag (wsV RX10 142 RX10 yX10_isBus wsX10_isBus) := goodIn_app (goodIn_of _ (by decide +kernel)) ggX10_sag_X10_isBus
set_option maxRecDepth 20000 in
theorem ggX10_sag_X10_isSort : GoodIn wsX10_sag wsX10_isSort := goodIn_r _ [19, 20, 21, 14, 15, 12, 16] (by decide +kernel) (by decide +kernel)
set_option maxRecDepth 20000 in
theorem gX10_sag_X10_isSort : GoodIn wsX10_sag (va_wsS RX10 252 yX10_isSort wsX10_isSort) := goodIn_app (goodIn_of _ (by decide +kernel)) ggX10_sag_X10_isSort
set_option maxRecDepth 20000 in
theorem ggX10_sag_X10_in : GoodIn wsX10_sag wsX10_in := goodIn_r _ [16] (by decide +kernel) (by decide +kernel)
set_option maxRecDepth 20000 in
theorem gX10_sag_X10_in : GoodIn wsX10_sag (va_wsS RX10 66 yX10_in wsX10_in) := goodIn_app (goodIn_of _ (by decide +kernel)) ggX10_sag_X10_in
set_option maxRecDepth 20000 in
theorem ggX10_sag_X10_layFault : GoodIn wsX10_sag wsX10_layFault := goodIn_r _ [25, 20, 26, 5, 6, 27, 28, 29, 12, 30, 31, 32, 50, 51, 52, 53, 54, 55, 56, 57, 58, 59, 60, 61, 62, 63, 64, 65, 66, 67, 68, 69, 70, 71, 72, 73, 74, 75] (by decide +kernel) (by decide +kernel)
set_option maxRecDepth 20000 in
theorem gX10_sag_X10_layFault : GoodIn wsX10_sag (wsV RX10 255 RX10 yX10_layFault wsX10_layFault) := goodIn_app (goodIn_of _ (by decide +kernel)) ggX10_sag_X10_layFault
set_option maxRecDepth 20000 in
theorem ggX10_sag_X10_layVoltage : GoodIn wsX10_sag wsX10_layVoltage := goodIn_r _ [36, 26, 5, 6, 37, 38, 39, 12, 40, 32, 27, 28, 29, 30, 31, 50, 51, 52, 53, 54, 55, 56, 57, 58, 59, 60, 61, 62, 63, 64, 65, 66, 67, 68, 69, 70, 71, 72, 73, 74, 75] (by decide +kernel) (by decide +kernel)
set_option maxRecDepth 20000 in
theorem gX10_sag_X10_layVoltage : GoodIn wsX10_sag (wsV RX10 271 RX10 yX10_layVoltage wsX10_layVoltage) := goodIn_app (goodIn_of _ (by decide +kernel)) ggX10_sag_X10_layVoltage
set_option maxRecDepth 20000 in
theorem ggX10_sag_X10_layPhases : GoodIn wsX10_sag wsX10_layPhases := goodIn_r _ [44, 45, 26, 50, 51, 52, 53, 54, 55, 56, 57, 58, 59, 60, 61, 62, 63, 64, 65, 66, 67, 68, 69, 70, 71, 72, 73, 74, 75] (by decide +kernel) (by decide +kernel)
set_option maxRecDepth 20000 in
theorem gX10_sag_X10_layPhases : GoodIn wsX10_sag (wsV RX10 258 RX10 yX10_layPhases wsX10_layPhases) := goodIn_app (goodIn_of _ (by decide +kernel)) ggX10_sag_X10_layPhases
set_option maxRecDepth 20000 in
theorem ggX10_sag_X10_normOf : GoodIn wsX10_sag wsX10_normOf := goodIn_r _ [49, 45, 50, 51, 52, 53, 54, 55, 56, 57, 58, 59, 60, 61, 62, 63, 64, 65, 66, 67, 68, 69, 70, 71, 72, 73, 74, 75] (by decide +kernel) (by decide +kernel)
set_option maxRecDepth 20000 in
theorem gX10_sag_X10_normOf : GoodIn wsX10_sag (wsV RX10 261 RX10 yX10_normOf wsX10_normOf) := goodIn_app (goodIn_of _ (by decide +kernel)) ggX10_sag_X10_normOf
theorem dX10_sag_0 : decode cX10_sag 0 = .ok (.aload_n 0, 1) := by decide +kernel
theorem dX10_sag_1 : decode cX10_sag 1 = .ok (.iload_n 2, 1) := by decide +kernel
theorem dX10_sag_2 : decode cX10_sag 2 = .ok (.invokevirtual 142, 3) := by decide +kernel
theorem dX10_sag_5 : decode cX10_sag 5 = .ok (.ifCond .ne 6, 3) := by decide +kernel
theorem dX10_sag_8 : decode cX10_sag 8 = .ok (.ldc 145, 2) := by decide +kernel
theorem dX10_sag_10 : decode cX10_sag 10 = .ok (.ireturn, 1) := by decide +kernel
theorem dX10_sag_11 : decode cX10_sag 11 = .ok (.iload_n 1, 1) := by decide +kernel
theorem dX10_sag_12 : decode cX10_sag 12 = .ok (.iload_n 3, 1) := by decide +kernel
theorem dX10_sag_13 : decode cX10_sag 13 = .ok (.invokestatic 252, 3) := by decide +kernel
theorem dX10_sag_16 : decode cX10_sag 16 = .ok (.ifCond .eq 16, 3) := by decide +kernel
theorem dX10_sag_19 : decode cX10_sag 19 = .ok (.iload 4, 2) := by decide +kernel
theorem dX10_sag_21 : decode cX10_sag 21 = .ok (.i2l, 1) := by decide +kernel
theorem dX10_sag_22 : decode cX10_sag 22 = .ok (.lconst 0, 1) := by decide +kernel
theorem dX10_sag_23 : decode cX10_sag 23 = .ok (.ldc2_w 274, 3) := by decide +kernel
theorem dX10_sag_26 : decode cX10_sag 26 = .ok (.invokestatic 66, 3) := by decide +kernel
theorem dX10_sag_29 : decode cX10_sag 29 = .ok (.ifCond .ne 6, 3) := by decide +kernel
theorem dX10_sag_32 : decode cX10_sag 32 = .ok (.ldc 70, 2) := by decide +kernel
theorem dX10_sag_34 : decode cX10_sag 34 = .ok (.ireturn, 1) := by decide +kernel
theorem dX10_sag_35 : decode cX10_sag 35 = .ok (.iconst 0, 1) := by decide +kernel
theorem dX10_sag_36 : decode cX10_sag 36 = .ok (.istore 5, 2) := by decide +kernel
theorem dX10_sag_38 : decode cX10_sag 38 = .ok (.iconst 0, 1) := by decide +kernel
theorem dX10_sag_39 : decode cX10_sag 39 = .ok (.istore 6, 2) := by decide +kernel
theorem dX10_sag_41 : decode cX10_sag 41 = .ok (.iload 6, 2) := by decide +kernel
theorem dX10_sag_43 : decode cX10_sag 43 = .ok (.aload_n 0, 1) := by decide +kernel
theorem dX10_sag_44 : decode cX10_sag 44 = .ok (.getfield 20, 3) := by decide +kernel
theorem dX10_sag_47 : decode cX10_sag 47 = .ok (.if_icmp .ge 102, 3) := by decide +kernel
theorem dX10_sag_50 : decode cX10_sag 50 = .ok (.aload_n 0, 1) := by decide +kernel
theorem dX10_sag_51 : decode cX10_sag 51 = .ok (.iload_n 1, 1) := by decide +kernel
theorem dX10_sag_52 : decode cX10_sag 52 = .ok (.iload_n 2, 1) := by decide +kernel
theorem dX10_sag_53 : decode cX10_sag 53 = .ok (.iload_n 3, 1) := by decide +kernel
theorem dX10_sag_54 : decode cX10_sag 54 = .ok (.invokevirtual 255, 3) := by decide +kernel
theorem dX10_sag_57 : decode cX10_sag 57 = .ok (.aload_n 0, 1) := by decide +kernel
theorem dX10_sag_58 : decode cX10_sag 58 = .ok (.iload_n 2, 1) := by decide +kernel
theorem dX10_sag_59 : decode cX10_sag 59 = .ok (.iload 6, 2) := by decide +kernel
theorem dX10_sag_61 : decode cX10_sag 61 = .ok (.invokevirtual 271, 3) := by decide +kernel
theorem dX10_sag_64 : decode cX10_sag 64 = .ok (.aload_n 0, 1) := by decide +kernel
theorem dX10_sag_65 : decode cX10_sag 65 = .ok (.invokevirtual 258, 3) := by decide +kernel
theorem dX10_sag_68 : decode cX10_sag 68 = .ok (.aload_n 0, 1) := by decide +kernel
theorem dX10_sag_69 : decode cX10_sag 69 = .ok (.getfield 16, 3) := by decide +kernel
theorem dX10_sag_72 : decode cX10_sag 72 = .ok (.i2l, 1) := by decide +kernel
theorem dX10_sag_73 : decode cX10_sag 73 = .ok (.aload_n 0, 1) := by decide +kernel
theorem dX10_sag_74 : decode cX10_sag 74 = .ok (.getfield 16, 3) := by decide +kernel
theorem dX10_sag_77 : decode cX10_sag 77 = .ok (.i2l, 1) := by decide +kernel
theorem dX10_sag_78 : decode cX10_sag 78 = .ok (.lmul, 1) := by decide +kernel
theorem dX10_sag_79 : decode cX10_sag 79 = .ok (.iload 4, 2) := by decide +kernel
theorem dX10_sag_81 : decode cX10_sag 81 = .ok (.i2l, 1) := by decide +kernel
theorem dX10_sag_82 : decode cX10_sag 82 = .ok (.lmul, 1) := by decide +kernel
theorem dX10_sag_83 : decode cX10_sag 83 = .ok (.iload 4, 2) := by decide +kernel
theorem dX10_sag_85 : decode cX10_sag 85 = .ok (.i2l, 1) := by decide +kernel
theorem dX10_sag_86 : decode cX10_sag 86 = .ok (.lmul, 1) := by decide +kernel
theorem dX10_sag_87 : decode cX10_sag 87 = .ok (.aload_n 0, 1) := by decide +kernel
theorem dX10_sag_88 : decode cX10_sag 88 = .ok (.getfield 243, 3) := by decide +kernel
theorem dX10_sag_91 : decode cX10_sag 91 = .ok (.lmul, 1) := by decide +kernel
theorem dX10_sag_92 : decode cX10_sag 92 = .ok (.aload_n 0, 1) := by decide +kernel
theorem dX10_sag_93 : decode cX10_sag 93 = .ok (.getfield 243, 3) := by decide +kernel
theorem dX10_sag_96 : decode cX10_sag 96 = .ok (.lmul, 1) := by decide +kernel
theorem dX10_sag_97 : decode cX10_sag 97 = .ok (.lstore 7, 2) := by decide +kernel
theorem dX10_sag_99 : decode cX10_sag 99 = .ok (.iconst 0, 1) := by decide +kernel
theorem dX10_sag_100 : decode cX10_sag 100 = .ok (.istore 9, 2) := by decide +kernel
theorem dX10_sag_102 : decode cX10_sag 102 = .ok (.iload 9, 2) := by decide +kernel
theorem dX10_sag_104 : decode cX10_sag 104 = .ok (.iconst 3, 1) := by decide +kernel
theorem dX10_sag_105 : decode cX10_sag 105 = .ok (.if_icmp .ge 38, 3) := by decide +kernel
theorem dX10_sag_108 : decode cX10_sag 108 = .ok (.iload 5, 2) := by decide +kernel
theorem dX10_sag_110 : decode cX10_sag 110 = .ok (.aload_n 0, 1) := by decide +kernel
theorem dX10_sag_111 : decode cX10_sag 111 = .ok (.iload 9, 2) := by decide +kernel
theorem dX10_sag_113 : decode cX10_sag 113 = .ok (.invokevirtual 261, 3) := by decide +kernel
theorem dX10_sag_116 : decode cX10_sag 116 = .ok (.ldc2_w 276, 3) := by decide +kernel
theorem dX10_sag_119 : decode cX10_sag 119 = .ok (.lmul, 1) := by decide +kernel
theorem dX10_sag_120 : decode cX10_sag 120 = .ok (.lload 7, 2) := by decide +kernel
theorem dX10_sag_122 : decode cX10_sag 122 = .ok (.lcmp, 1) := by decide +kernel
theorem dX10_sag_123 : decode cX10_sag 123 = .ok (.ifCond .ge 10, 3) := by decide +kernel
theorem dX10_sag_126 : decode cX10_sag 126 = .ok (.iconst 1, 1) := by decide +kernel
theorem dX10_sag_127 : decode cX10_sag 127 = .ok (.iload 6, 2) := by decide +kernel
theorem dX10_sag_129 : decode cX10_sag 129 = .ok (.ishl, 1) := by decide +kernel
theorem dX10_sag_130 : decode cX10_sag 130 = .ok (.goto 4, 3) := by decide +kernel
theorem dX10_sag_133 : decode cX10_sag 133 = .ok (.iconst 0, 1) := by decide +kernel
theorem dX10_sag_134 : decode cX10_sag 134 = .ok (.ior, 1) := by decide +kernel
theorem dX10_sag_135 : decode cX10_sag 135 = .ok (.istore 5, 2) := by decide +kernel
theorem dX10_sag_137 : decode cX10_sag 137 = .ok (.iinc 9 1, 3) := by decide +kernel
theorem dX10_sag_140 : decode cX10_sag 140 = .ok (.goto (-38), 3) := by decide +kernel
theorem dX10_sag_143 : decode cX10_sag 143 = .ok (.iinc 6 1, 3) := by decide +kernel
theorem dX10_sag_146 : decode cX10_sag 146 = .ok (.goto (-105), 3) := by decide +kernel
theorem dX10_sag_149 : decode cX10_sag 149 = .ok (.aload_n 0, 1) := by decide +kernel
theorem dX10_sag_150 : decode cX10_sag 150 = .ok (.getfield 243, 3) := by decide +kernel
theorem dX10_sag_153 : decode cX10_sag 153 = .ok (.lconst 0, 1) := by decide +kernel
theorem dX10_sag_154 : decode cX10_sag 154 = .ok (.lcmp, 1) := by decide +kernel
theorem dX10_sag_155 : decode cX10_sag 155 = .ok (.ifCond .ne 8, 3) := by decide +kernel
theorem dX10_sag_158 : decode cX10_sag 158 = .ok (.ldc 74, 2) := by decide +kernel
theorem dX10_sag_160 : decode cX10_sag 160 = .ok (.goto 5, 3) := by decide +kernel
theorem dX10_sag_163 : decode cX10_sag 163 = .ok (.iload 5, 2) := by decide +kernel
theorem dX10_sag_165 : decode cX10_sag 165 = .ok (.ireturn, 1) := by decide +kernel
set_option maxRecDepth 20000 in
theorem ggX10_greatestNorm_X10_normOf : GoodIn wsX10_greatestNorm wsX10_normOf := goodIn_r _ [5, 6, 7, 8, 9, 10, 11, 12, 13, 14, 15, 16, 17, 18, 19, 20, 21, 22, 23, 24, 25, 26, 27, 28, 29, 30, 31, 32] (by decide +kernel) (by decide +kernel)
set_option maxRecDepth 20000 in
theorem gX10_greatestNorm_X10_normOf : GoodIn wsX10_greatestNorm (wsV RX10 261 RX10 yX10_normOf wsX10_normOf) := goodIn_app (goodIn_of _ (by decide +kernel)) ggX10_greatestNorm_X10_normOf
theorem dX10_greatestNorm_0 : decode cX10_greatestNorm 0 = .ok (.lconst 0, 1) := by decide +kernel
theorem dX10_greatestNorm_1 : decode cX10_greatestNorm 1 = .ok (.lstore_n 1, 1) := by decide +kernel
theorem dX10_greatestNorm_2 : decode cX10_greatestNorm 2 = .ok (.iconst 0, 1) := by decide +kernel
theorem dX10_greatestNorm_3 : decode cX10_greatestNorm 3 = .ok (.istore_n 3, 1) := by decide +kernel
theorem dX10_greatestNorm_4 : decode cX10_greatestNorm 4 = .ok (.iload_n 3, 1) := by decide +kernel
theorem dX10_greatestNorm_5 : decode cX10_greatestNorm 5 = .ok (.iconst 3, 1) := by decide +kernel
theorem dX10_greatestNorm_6 : decode cX10_greatestNorm 6 = .ok (.if_icmp .ge 29, 3) := by decide +kernel
theorem dX10_greatestNorm_9 : decode cX10_greatestNorm 9 = .ok (.aload_n 0, 1) := by decide +kernel
theorem dX10_greatestNorm_10 : decode cX10_greatestNorm 10 = .ok (.iload_n 3, 1) := by decide +kernel
theorem dX10_greatestNorm_11 : decode cX10_greatestNorm 11 = .ok (.invokevirtual 261, 3) := by decide +kernel
theorem dX10_greatestNorm_14 : decode cX10_greatestNorm 14 = .ok (.lload_n 1, 1) := by decide +kernel
theorem dX10_greatestNorm_15 : decode cX10_greatestNorm 15 = .ok (.lcmp, 1) := by decide +kernel
theorem dX10_greatestNorm_16 : decode cX10_greatestNorm 16 = .ok (.ifCond .le 11, 3) := by decide +kernel
theorem dX10_greatestNorm_19 : decode cX10_greatestNorm 19 = .ok (.aload_n 0, 1) := by decide +kernel
theorem dX10_greatestNorm_20 : decode cX10_greatestNorm 20 = .ok (.iload_n 3, 1) := by decide +kernel
theorem dX10_greatestNorm_21 : decode cX10_greatestNorm 21 = .ok (.invokevirtual 261, 3) := by decide +kernel
theorem dX10_greatestNorm_24 : decode cX10_greatestNorm 24 = .ok (.goto 4, 3) := by decide +kernel
theorem dX10_greatestNorm_27 : decode cX10_greatestNorm 27 = .ok (.lload_n 1, 1) := by decide +kernel
theorem dX10_greatestNorm_28 : decode cX10_greatestNorm 28 = .ok (.lstore_n 1, 1) := by decide +kernel
theorem dX10_greatestNorm_29 : decode cX10_greatestNorm 29 = .ok (.iinc 3 1, 3) := by decide +kernel
theorem dX10_greatestNorm_32 : decode cX10_greatestNorm 32 = .ok (.goto (-28), 3) := by decide +kernel
theorem dX10_greatestNorm_35 : decode cX10_greatestNorm 35 = .ok (.lload_n 1, 1) := by decide +kernel
theorem dX10_greatestNorm_36 : decode cX10_greatestNorm 36 = .ok (.lreturn, 1) := by decide +kernel
set_option maxRecDepth 20000 in
theorem ggX10_trips_X10_isBus : GoodIn wsX10_trips wsX10_isBus := goodIn_r _ [11, 12, 13, 14, 10, 15, 45, 46, 47, 48, 49, 50, 51, 52, 53, 54, 55, 56, 57, 58, 59, 60, 61, 62, 63, 64, 65, 66, 67, 68, 69, 70] (by decide +kernel) (by decide +kernel)
set_option maxRecDepth 20000 in
theorem gX10_trips_X10_isBus : GoodIn wsX10_trips (wsV RX10 142 RX10 yX10_isBus wsX10_isBus) := goodIn_app (goodIn_of _ (by decide +kernel)) ggX10_trips_X10_isBus
set_option maxRecDepth 20000 in
theorem ggX10_trips_X10_isSort : GoodIn wsX10_trips wsX10_isSort := goodIn_r _ [18, 19, 20, 13, 14, 10, 15] (by decide +kernel) (by decide +kernel)
set_option maxRecDepth 20000 in
theorem gX10_trips_X10_isSort : GoodIn wsX10_trips (va_wsS RX10 252 yX10_isSort wsX10_isSort) := goodIn_app (goodIn_of _ (by decide +kernel)) ggX10_trips_X10_isSort
set_option maxRecDepth 20000 in
theorem ggX10_trips_X10_layFault : GoodIn wsX10_trips wsX10_layFault := goodIn_r _ [24, 19, 25, 26, 4, 27, 28, 29, 10, 30, 31, 5, 45, 46, 47, 48, 49, 50, 51, 52, 53, 54, 55, 56, 57, 58, 59, 60, 61, 62, 63, 64, 65, 66, 67, 68, 69, 70] (by decide +kernel) (by decide +kernel)
set_option maxRecDepth 20000 in
theorem gX10_trips_X10_layFault : GoodIn wsX10_trips (wsV RX10 255 RX10 yX10_layFault wsX10_layFault) := goodIn_app (goodIn_of _ (by decide +kernel)) ggX10_trips_X10_layFault
set_option maxRecDepth 20000 in
theorem ggX10_trips_X10_layPhases : GoodIn wsX10_trips wsX10_layPhases := goodIn_r _ [35, 36, 25, 45, 46, 47, 48, 49, 50, 51, 52, 53, 54, 55, 56, 57, 58, 59, 60, 61, 62, 63, 64, 65, 66, 67, 68, 69, 70] (by decide +kernel) (by decide +kernel)
set_option maxRecDepth 20000 in
theorem gX10_trips_X10_layPhases : GoodIn wsX10_trips (wsV RX10 258 RX10 yX10_layPhases wsX10_layPhases) := goodIn_app (goodIn_of _ (by decide +kernel)) ggX10_trips_X10_layPhases
set_option maxRecDepth 20000 in
theorem ggX10_trips_X10_greatestNorm : GoodIn wsX10_trips wsX10_greatestNorm := goodIn_r _ [40, 41, 42, 43, 10, 44, 36, 45, 46, 47, 48, 49, 50, 51, 52, 53, 54, 55, 56, 57, 58, 59, 60, 61, 62, 63, 64, 65, 66, 67, 68, 69, 70] (by decide +kernel) (by decide +kernel)
set_option maxRecDepth 20000 in
theorem gX10_trips_X10_greatestNorm : GoodIn wsX10_trips (wsV RX10 278 RX10 yX10_greatestNorm wsX10_greatestNorm) := goodIn_app (goodIn_of _ (by decide +kernel)) ggX10_trips_X10_greatestNorm
theorem dX10_trips_0 : decode cX10_trips 0 = .ok (.aload_n 0, 1) := by decide +kernel
theorem dX10_trips_1 : decode cX10_trips 1 = .ok (.iload_n 2, 1) := by decide +kernel
theorem dX10_trips_2 : decode cX10_trips 2 = .ok (.invokevirtual 142, 3) := by decide +kernel
theorem dX10_trips_5 : decode cX10_trips 5 = .ok (.ifCond .ne 6, 3) := by decide +kernel
theorem dX10_trips_8 : decode cX10_trips 8 = .ok (.ldc 145, 2) := by decide +kernel
theorem dX10_trips_10 : decode cX10_trips 10 = .ok (.ireturn, 1) := by decide +kernel
theorem dX10_trips_11 : decode cX10_trips 11 = .ok (.iload_n 1, 1) := by decide +kernel
theorem dX10_trips_12 : decode cX10_trips 12 = .ok (.iload_n 3, 1) := by decide +kernel
theorem dX10_trips_13 : decode cX10_trips 13 = .ok (.invokestatic 252, 3) := by decide +kernel
theorem dX10_trips_16 : decode cX10_trips 16 = .ok (.ifCond .ne 6, 3) := by decide +kernel
theorem dX10_trips_19 : decode cX10_trips 19 = .ok (.ldc 70, 2) := by decide +kernel
theorem dX10_trips_21 : decode cX10_trips 21 = .ok (.ireturn, 1) := by decide +kernel
theorem dX10_trips_22 : decode cX10_trips 22 = .ok (.aload_n 0, 1) := by decide +kernel
theorem dX10_trips_23 : decode cX10_trips 23 = .ok (.iload_n 1, 1) := by decide +kernel
theorem dX10_trips_24 : decode cX10_trips 24 = .ok (.iload_n 2, 1) := by decide +kernel
theorem dX10_trips_25 : decode cX10_trips 25 = .ok (.iload_n 3, 1) := by decide +kernel
theorem dX10_trips_26 : decode cX10_trips 26 = .ok (.invokevirtual 255, 3) := by decide +kernel
theorem dX10_trips_29 : decode cX10_trips 29 = .ok (.aload_n 0, 1) := by decide +kernel
theorem dX10_trips_30 : decode cX10_trips 30 = .ok (.invokevirtual 258, 3) := by decide +kernel
theorem dX10_trips_33 : decode cX10_trips 33 = .ok (.iconst 0, 1) := by decide +kernel
theorem dX10_trips_34 : decode cX10_trips 34 = .ok (.istore 4, 2) := by decide +kernel
theorem dX10_trips_36 : decode cX10_trips 36 = .ok (.iload_n 2, 1) := by decide +kernel
theorem dX10_trips_37 : decode cX10_trips 37 = .ok (.istore 5, 2) := by decide +kernel
theorem dX10_trips_39 : decode cX10_trips 39 = .ok (.iload 5, 2) := by decide +kernel
theorem dX10_trips_41 : decode cX10_trips 41 = .ok (.ifCond .le 66, 3) := by decide +kernel
theorem dX10_trips_44 : decode cX10_trips 44 = .ok (.aload_n 0, 1) := by decide +kernel
theorem dX10_trips_45 : decode cX10_trips 45 = .ok (.getfield 30, 3) := by decide +kernel
theorem dX10_trips_48 : decode cX10_trips 48 = .ok (.iload 5, 2) := by decide +kernel
theorem dX10_trips_50 : decode cX10_trips 50 = .ok (.iaload, 1) := by decide +kernel
theorem dX10_trips_51 : decode cX10_trips 51 = .ok (.i2l, 1) := by decide +kernel
theorem dX10_trips_52 : decode cX10_trips 52 = .ok (.aload_n 0, 1) := by decide +kernel
theorem dX10_trips_53 : decode cX10_trips 53 = .ok (.getfield 243, 3) := by decide +kernel
theorem dX10_trips_56 : decode cX10_trips 56 = .ok (.lmul, 1) := by decide +kernel
theorem dX10_trips_57 : decode cX10_trips 57 = .ok (.lstore 6, 2) := by decide +kernel
theorem dX10_trips_59 : decode cX10_trips 59 = .ok (.iload 4, 2) := by decide +kernel
theorem dX10_trips_61 : decode cX10_trips 61 = .ok (.aload_n 0, 1) := by decide +kernel
theorem dX10_trips_62 : decode cX10_trips 62 = .ok (.getfield 30, 3) := by decide +kernel
theorem dX10_trips_65 : decode cX10_trips 65 = .ok (.iload 5, 2) := by decide +kernel
theorem dX10_trips_67 : decode cX10_trips 67 = .ok (.iaload, 1) := by decide +kernel
theorem dX10_trips_68 : decode cX10_trips 68 = .ok (.ifCond .le 23, 3) := by decide +kernel
theorem dX10_trips_71 : decode cX10_trips 71 = .ok (.aload_n 0, 1) := by decide +kernel
theorem dX10_trips_72 : decode cX10_trips 72 = .ok (.invokevirtual 278, 3) := by decide +kernel
theorem dX10_trips_75 : decode cX10_trips 75 = .ok (.lload 6, 2) := by decide +kernel
theorem dX10_trips_77 : decode cX10_trips 77 = .ok (.lload 6, 2) := by decide +kernel
theorem dX10_trips_79 : decode cX10_trips 79 = .ok (.lmul, 1) := by decide +kernel
theorem dX10_trips_80 : decode cX10_trips 80 = .ok (.lcmp, 1) := by decide +kernel
theorem dX10_trips_81 : decode cX10_trips 81 = .ok (.ifCond .le 10, 3) := by decide +kernel
theorem dX10_trips_84 : decode cX10_trips 84 = .ok (.iconst 1, 1) := by decide +kernel
theorem dX10_trips_85 : decode cX10_trips 85 = .ok (.iload 5, 2) := by decide +kernel
theorem dX10_trips_87 : decode cX10_trips 87 = .ok (.ishl, 1) := by decide +kernel
theorem dX10_trips_88 : decode cX10_trips 88 = .ok (.goto 4, 3) := by decide +kernel
theorem dX10_trips_91 : decode cX10_trips 91 = .ok (.iconst 0, 1) := by decide +kernel
theorem dX10_trips_92 : decode cX10_trips 92 = .ok (.ior, 1) := by decide +kernel
theorem dX10_trips_93 : decode cX10_trips 93 = .ok (.istore 4, 2) := by decide +kernel
theorem dX10_trips_95 : decode cX10_trips 95 = .ok (.aload_n 0, 1) := by decide +kernel
theorem dX10_trips_96 : decode cX10_trips 96 = .ok (.getfield 23, 3) := by decide +kernel
theorem dX10_trips_99 : decode cX10_trips 99 = .ok (.iload 5, 2) := by decide +kernel
theorem dX10_trips_101 : decode cX10_trips 101 = .ok (.iaload, 1) := by decide +kernel
theorem dX10_trips_102 : decode cX10_trips 102 = .ok (.istore 5, 2) := by decide +kernel
theorem dX10_trips_104 : decode cX10_trips 104 = .ok (.goto (-65), 3) := by decide +kernel
theorem dX10_trips_107 : decode cX10_trips 107 = .ok (.aload_n 0, 1) := by decide +kernel
theorem dX10_trips_108 : decode cX10_trips 108 = .ok (.getfield 243, 3) := by decide +kernel
theorem dX10_trips_111 : decode cX10_trips 111 = .ok (.lconst 0, 1) := by decide +kernel
theorem dX10_trips_112 : decode cX10_trips 112 = .ok (.lcmp, 1) := by decide +kernel
theorem dX10_trips_113 : decode cX10_trips 113 = .ok (.ifCond .ne 8, 3) := by decide +kernel
theorem dX10_trips_116 : decode cX10_trips 116 = .ok (.ldc 74, 2) := by decide +kernel
theorem dX10_trips_118 : decode cX10_trips 118 = .ok (.goto 5, 3) := by decide +kernel
theorem dX10_trips_121 : decode cX10_trips 121 = .ok (.iload 4, 2) := by decide +kernel
theorem dX10_trips_123 : decode cX10_trips 123 = .ok (.ireturn, 1) := by decide +kernel
set_option maxRecDepth 20000 in
theorem ggX10_worst_X10_isSort : GoodIn wsX10_worst wsX10_isSort := goodIn_r _ [7, 8, 9, 10, 11, 6, 12] (by decide +kernel) (by decide +kernel)
set_option maxRecDepth 20000 in
theorem gX10_worst_X10_isSort : GoodIn wsX10_worst (va_wsS RX10 252 yX10_isSort wsX10_isSort) := goodIn_app (goodIn_of _ (by decide +kernel)) ggX10_worst_X10_isSort
set_option maxRecDepth 20000 in
theorem ggX10_worst_X10_layFault : GoodIn wsX10_worst wsX10_layFault := goodIn_r _ [16, 8, 17, 18, 3, 19, 20, 21, 6, 22, 23, 24, 38, 39, 40, 41, 42, 43, 44, 45, 46, 47, 48, 49, 50, 51, 52, 53, 54, 55, 56, 57, 58, 59, 60, 61, 62, 63] (by decide +kernel) (by decide +kernel)
set_option maxRecDepth 20000 in
theorem gX10_worst_X10_layFault : GoodIn wsX10_worst (wsV RX10 255 RX10 yX10_layFault wsX10_layFault) := goodIn_app (goodIn_of _ (by decide +kernel)) ggX10_worst_X10_layFault
set_option maxRecDepth 20000 in
theorem ggX10_worst_X10_layPhases : GoodIn wsX10_worst wsX10_layPhases := goodIn_r _ [28, 29, 17, 38, 39, 40, 41, 42, 43, 44, 45, 46, 47, 48, 49, 50, 51, 52, 53, 54, 55, 56, 57, 58, 59, 60, 61, 62, 63] (by decide +kernel) (by decide +kernel)
set_option maxRecDepth 20000 in
theorem gX10_worst_X10_layPhases : GoodIn wsX10_worst (wsV RX10 258 RX10 yX10_layPhases wsX10_layPhases) := goodIn_app (goodIn_of _ (by decide +kernel)) ggX10_worst_X10_layPhases
set_option maxRecDepth 20000 in
theorem ggX10_worst_X10_greatestNorm : GoodIn wsX10_worst wsX10_greatestNorm := goodIn_r _ [33, 34, 35, 36, 6, 37, 29, 38, 39, 40, 41, 42, 43, 44, 45, 46, 47, 48, 49, 50, 51, 52, 53, 54, 55, 56, 57, 58, 59, 60, 61, 62, 63] (by decide +kernel) (by decide +kernel)
set_option maxRecDepth 20000 in
theorem gX10_worst_X10_greatestNorm : GoodIn wsX10_worst (wsV RX10 278 RX10 yX10_greatestNorm wsX10_greatestNorm) := goodIn_app (goodIn_of _ (by decide +kernel)) ggX10_worst_X10_greatestNorm
theorem dX10_worst_0 : decode cX10_worst 0 = .ok (.iload_n 1, 1) := by decide +kernel
theorem dX10_worst_1 : decode cX10_worst 1 = .ok (.iload_n 2, 1) := by decide +kernel
theorem dX10_worst_2 : decode cX10_worst 2 = .ok (.invokestatic 252, 3) := by decide +kernel
theorem dX10_worst_5 : decode cX10_worst 5 = .ok (.ifCond .ne 6, 3) := by decide +kernel
theorem dX10_worst_8 : decode cX10_worst 8 = .ok (.ldc 70, 2) := by decide +kernel
theorem dX10_worst_10 : decode cX10_worst 10 = .ok (.ireturn, 1) := by decide +kernel
theorem dX10_worst_11 : decode cX10_worst 11 = .ok (.iconst (-1), 1) := by decide +kernel
theorem dX10_worst_12 : decode cX10_worst 12 = .ok (.istore_n 3, 1) := by decide +kernel
theorem dX10_worst_13 : decode cX10_worst 13 = .ok (.lconst 0, 1) := by decide +kernel
theorem dX10_worst_14 : decode cX10_worst 14 = .ok (.lstore 4, 2) := by decide +kernel
theorem dX10_worst_16 : decode cX10_worst 16 = .ok (.lconst 1, 1) := by decide +kernel
theorem dX10_worst_17 : decode cX10_worst 17 = .ok (.lstore 6, 2) := by decide +kernel
theorem dX10_worst_19 : decode cX10_worst 19 = .ok (.iconst 0, 1) := by decide +kernel
theorem dX10_worst_20 : decode cX10_worst 20 = .ok (.istore 8, 2) := by decide +kernel
theorem dX10_worst_22 : decode cX10_worst 22 = .ok (.iload 8, 2) := by decide +kernel
theorem dX10_worst_24 : decode cX10_worst 24 = .ok (.aload_n 0, 1) := by decide +kernel
theorem dX10_worst_25 : decode cX10_worst 25 = .ok (.getfield 20, 3) := by decide +kernel
theorem dX10_worst_28 : decode cX10_worst 28 = .ok (.if_icmp .ge 78, 3) := by decide +kernel
theorem dX10_worst_31 : decode cX10_worst 31 = .ok (.aload_n 0, 1) := by decide +kernel
theorem dX10_worst_32 : decode cX10_worst 32 = .ok (.iload_n 1, 1) := by decide +kernel
theorem dX10_worst_33 : decode cX10_worst 33 = .ok (.iload 8, 2) := by decide +kernel
theorem dX10_worst_35 : decode cX10_worst 35 = .ok (.iload_n 2, 1) := by decide +kernel
theorem dX10_worst_36 : decode cX10_worst 36 = .ok (.invokevirtual 255, 3) := by decide +kernel
theorem dX10_worst_39 : decode cX10_worst 39 = .ok (.aload_n 0, 1) := by decide +kernel
theorem dX10_worst_40 : decode cX10_worst 40 = .ok (.invokevirtual 258, 3) := by decide +kernel
theorem dX10_worst_43 : decode cX10_worst 43 = .ok (.aload_n 0, 1) := by decide +kernel
theorem dX10_worst_44 : decode cX10_worst 44 = .ok (.getfield 243, 3) := by decide +kernel
theorem dX10_worst_47 : decode cX10_worst 47 = .ok (.lconst 0, 1) := by decide +kernel
theorem dX10_worst_48 : decode cX10_worst 48 = .ok (.lcmp, 1) := by decide +kernel
theorem dX10_worst_49 : decode cX10_worst 49 = .ok (.ifCond .eq 51, 3) := by decide +kernel
theorem dX10_worst_52 : decode cX10_worst 52 = .ok (.iload_n 3, 1) := by decide +kernel
theorem dX10_worst_53 : decode cX10_worst 53 = .ok (.iconst (-1), 1) := by decide +kernel
theorem dX10_worst_54 : decode cX10_worst 54 = .ok (.if_icmp .eq 26, 3) := by decide +kernel
theorem dX10_worst_57 : decode cX10_worst 57 = .ok (.aload_n 0, 1) := by decide +kernel
theorem dX10_worst_58 : decode cX10_worst 58 = .ok (.invokevirtual 278, 3) := by decide +kernel
theorem dX10_worst_61 : decode cX10_worst 61 = .ok (.lload 6, 2) := by decide +kernel
theorem dX10_worst_63 : decode cX10_worst 63 = .ok (.lmul, 1) := by decide +kernel
theorem dX10_worst_64 : decode cX10_worst 64 = .ok (.lload 4, 2) := by decide +kernel
theorem dX10_worst_66 : decode cX10_worst 66 = .ok (.aload_n 0, 1) := by decide +kernel
theorem dX10_worst_67 : decode cX10_worst 67 = .ok (.getfield 243, 3) := by decide +kernel
theorem dX10_worst_70 : decode cX10_worst 70 = .ok (.lmul, 1) := by decide +kernel
theorem dX10_worst_71 : decode cX10_worst 71 = .ok (.aload_n 0, 1) := by decide +kernel
theorem dX10_worst_72 : decode cX10_worst 72 = .ok (.getfield 243, 3) := by decide +kernel
theorem dX10_worst_75 : decode cX10_worst 75 = .ok (.lmul, 1) := by decide +kernel
theorem dX10_worst_76 : decode cX10_worst 76 = .ok (.lcmp, 1) := by decide +kernel
theorem dX10_worst_77 : decode cX10_worst 77 = .ok (.ifCond .le 23, 3) := by decide +kernel
theorem dX10_worst_80 : decode cX10_worst 80 = .ok (.iload 8, 2) := by decide +kernel
theorem dX10_worst_82 : decode cX10_worst 82 = .ok (.istore_n 3, 1) := by decide +kernel
theorem dX10_worst_83 : decode cX10_worst 83 = .ok (.aload_n 0, 1) := by decide +kernel
theorem dX10_worst_84 : decode cX10_worst 84 = .ok (.invokevirtual 278, 3) := by decide +kernel
theorem dX10_worst_87 : decode cX10_worst 87 = .ok (.lstore 4, 2) := by decide +kernel
theorem dX10_worst_89 : decode cX10_worst 89 = .ok (.aload_n 0, 1) := by decide +kernel
theorem dX10_worst_90 : decode cX10_worst 90 = .ok (.getfield 243, 3) := by decide +kernel
theorem dX10_worst_93 : decode cX10_worst 93 = .ok (.aload_n 0, 1) := by decide +kernel
theorem dX10_worst_94 : decode cX10_worst 94 = .ok (.getfield 243, 3) := by decide +kernel
theorem dX10_worst_97 : decode cX10_worst 97 = .ok (.lmul, 1) := by decide +kernel
theorem dX10_worst_98 : decode cX10_worst 98 = .ok (.lstore 6, 2) := by decide +kernel
theorem dX10_worst_100 : decode cX10_worst 100 = .ok (.iinc 8 1, 3) := by decide +kernel
theorem dX10_worst_103 : decode cX10_worst 103 = .ok (.goto (-81), 3) := by decide +kernel
theorem dX10_worst_106 : decode cX10_worst 106 = .ok (.iload_n 3, 1) := by decide +kernel
theorem dX10_worst_107 : decode cX10_worst 107 = .ok (.ireturn, 1) := by decide +kernel
set_option maxRecDepth 20000 in
theorem ggX10_isAsPhases_X10_lay : GoodIn wsX10_isAsPhases wsX10_lay := goodIn_r _ [9, 3, 4, 10, 11, 8, 12, 13, 14, 15, 16, 17, 18, 19, 20, 21, 22, 23, 24, 25, 26, 27, 28, 29, 30, 31, 32, 33, 34, 35, 36, 37, 38] (by decide +kernel) (by decide +kernel)
set_option maxRecDepth 20000 in
theorem gX10_isAsPhases_X10_lay : GoodIn wsX10_isAsPhases (wsV RX10 158 RX10 yX10_lay wsX10_lay) := goodIn_app (goodIn_of _ (by decide +kernel)) ggX10_isAsPhases_X10_lay
theorem dX10_isAsPhases_0 : decode cX10_isAsPhases 0 = .ok (.aload_n 0, 1) := by decide +kernel
theorem dX10_isAsPhases_1 : decode cX10_isAsPhases 1 = .ok (.getfield 243, 3) := by decide +kernel
theorem dX10_isAsPhases_4 : decode cX10_isAsPhases 4 = .ok (.lconst 0, 1) := by decide +kernel
theorem dX10_isAsPhases_5 : decode cX10_isAsPhases 5 = .ok (.lcmp, 1) := by decide +kernel
theorem dX10_isAsPhases_6 : decode cX10_isAsPhases 6 = .ok (.ifCond .eq 7, 3) := by decide +kernel
theorem dX10_isAsPhases_9 : decode cX10_isAsPhases 9 = .ok (.iconst 1, 1) := by decide +kernel
theorem dX10_isAsPhases_10 : decode cX10_isAsPhases 10 = .ok (.goto 4, 3) := by decide +kernel
theorem dX10_isAsPhases_13 : decode cX10_isAsPhases 13 = .ok (.iconst 0, 1) := by decide +kernel
theorem dX10_isAsPhases_14 : decode cX10_isAsPhases 14 = .ok (.istore_n 1, 1) := by decide +kernel
theorem dX10_isAsPhases_15 : decode cX10_isAsPhases 15 = .ok (.iconst 0, 1) := by decide +kernel
theorem dX10_isAsPhases_16 : decode cX10_isAsPhases 16 = .ok (.istore_n 2, 1) := by decide +kernel
theorem dX10_isAsPhases_17 : decode cX10_isAsPhases 17 = .ok (.iload_n 2, 1) := by decide +kernel
theorem dX10_isAsPhases_18 : decode cX10_isAsPhases 18 = .ok (.bipush 6, 2) := by decide +kernel
theorem dX10_isAsPhases_20 : decode cX10_isAsPhases 20 = .ok (.if_icmp .ge 69, 3) := by decide +kernel
theorem dX10_isAsPhases_23 : decode cX10_isAsPhases 23 = .ok (.iload_n 1, 1) := by decide +kernel
theorem dX10_isAsPhases_24 : decode cX10_isAsPhases 24 = .ok (.ifCond .eq 65, 3) := by decide +kernel
theorem dX10_isAsPhases_27 : decode cX10_isAsPhases 27 = .ok (.aload_n 0, 1) := by decide +kernel
theorem dX10_isAsPhases_28 : decode cX10_isAsPhases 28 = .ok (.bipush 78, 2) := by decide +kernel
theorem dX10_isAsPhases_30 : decode cX10_isAsPhases 30 = .ok (.aload_n 0, 1) := by decide +kernel
theorem dX10_isAsPhases_31 : decode cX10_isAsPhases 31 = .ok (.getfield 61, 3) := by decide +kernel
theorem dX10_isAsPhases_34 : decode cX10_isAsPhases 34 = .ok (.iload_n 2, 1) := by decide +kernel
theorem dX10_isAsPhases_35 : decode cX10_isAsPhases 35 = .ok (.laload, 1) := by decide +kernel
theorem dX10_isAsPhases_36 : decode cX10_isAsPhases 36 = .ok (.aload_n 0, 1) := by decide +kernel
theorem dX10_isAsPhases_37 : decode cX10_isAsPhases 37 = .ok (.getfield 243, 3) := by decide +kernel
theorem dX10_isAsPhases_40 : decode cX10_isAsPhases 40 = .ok (.invokevirtual 158, 3) := by decide +kernel
theorem dX10_isAsPhases_43 : decode cX10_isAsPhases 43 = .ok (.aload_n 0, 1) := by decide +kernel
theorem dX10_isAsPhases_44 : decode cX10_isAsPhases 44 = .ok (.getfield 7, 3) := by decide +kernel
theorem dX10_isAsPhases_47 : decode cX10_isAsPhases 47 = .ok (.bipush 78, 2) := by decide +kernel
theorem dX10_isAsPhases_49 : decode cX10_isAsPhases 49 = .ok (.laload, 1) := by decide +kernel
theorem dX10_isAsPhases_50 : decode cX10_isAsPhases 50 = .ok (.aload_n 0, 1) := by decide +kernel
theorem dX10_isAsPhases_51 : decode cX10_isAsPhases 51 = .ok (.getfield 7, 3) := by decide +kernel
theorem dX10_isAsPhases_54 : decode cX10_isAsPhases 54 = .ok (.iload_n 2, 1) := by decide +kernel
theorem dX10_isAsPhases_55 : decode cX10_isAsPhases 55 = .ok (.laload, 1) := by decide +kernel
theorem dX10_isAsPhases_56 : decode cX10_isAsPhases 56 = .ok (.lcmp, 1) := by decide +kernel
theorem dX10_isAsPhases_57 : decode cX10_isAsPhases 57 = .ok (.ifCond .ne 24, 3) := by decide +kernel
theorem dX10_isAsPhases_60 : decode cX10_isAsPhases 60 = .ok (.aload_n 0, 1) := by decide +kernel
theorem dX10_isAsPhases_61 : decode cX10_isAsPhases 61 = .ok (.getfield 13, 3) := by decide +kernel
theorem dX10_isAsPhases_64 : decode cX10_isAsPhases 64 = .ok (.bipush 78, 2) := by decide +kernel
theorem dX10_isAsPhases_66 : decode cX10_isAsPhases 66 = .ok (.laload, 1) := by decide +kernel
theorem dX10_isAsPhases_67 : decode cX10_isAsPhases 67 = .ok (.aload_n 0, 1) := by decide +kernel
theorem dX10_isAsPhases_68 : decode cX10_isAsPhases 68 = .ok (.getfield 13, 3) := by decide +kernel
theorem dX10_isAsPhases_71 : decode cX10_isAsPhases 71 = .ok (.iload_n 2, 1) := by decide +kernel
theorem dX10_isAsPhases_72 : decode cX10_isAsPhases 72 = .ok (.laload, 1) := by decide +kernel
theorem dX10_isAsPhases_73 : decode cX10_isAsPhases 73 = .ok (.lcmp, 1) := by decide +kernel
theorem dX10_isAsPhases_74 : decode cX10_isAsPhases 74 = .ok (.ifCond .ne 7, 3) := by decide +kernel
theorem dX10_isAsPhases_77 : decode cX10_isAsPhases 77 = .ok (.iconst 1, 1) := by decide +kernel
theorem dX10_isAsPhases_78 : decode cX10_isAsPhases 78 = .ok (.goto 4, 3) := by decide +kernel
theorem dX10_isAsPhases_81 : decode cX10_isAsPhases 81 = .ok (.iconst 0, 1) := by decide +kernel
theorem dX10_isAsPhases_82 : decode cX10_isAsPhases 82 = .ok (.istore_n 1, 1) := by decide +kernel
theorem dX10_isAsPhases_83 : decode cX10_isAsPhases 83 = .ok (.iinc 2 1, 3) := by decide +kernel
theorem dX10_isAsPhases_86 : decode cX10_isAsPhases 86 = .ok (.goto (-69), 3) := by decide +kernel
theorem dX10_isAsPhases_89 : decode cX10_isAsPhases 89 = .ok (.iload_n 1, 1) := by decide +kernel
theorem dX10_isAsPhases_90 : decode cX10_isAsPhases 90 = .ok (.ireturn, 1) := by decide +kernel
set_option maxRecDepth 20000 in
theorem ggX10_match_X10_in : GoodIn wsX10_match wsX10_in := goodIn_r _ [6] (by decide +kernel) (by decide +kernel)
set_option maxRecDepth 20000 in
theorem gX10_match_X10_in : GoodIn wsX10_match (va_wsS RX10 66 yX10_in wsX10_in) := goodIn_app (goodIn_of _ (by decide +kernel)) ggX10_match_X10_in
set_option maxRecDepth 20000 in
theorem ggX10_match_X10_layFault : GoodIn wsX10_match wsX10_layFault := goodIn_r _ [10, 11, 12, 13, 14, 15, 16, 17, 5, 18, 19, 20, 39, 40, 41, 42, 43, 44, 45, 46, 47, 48, 49, 50, 51, 52, 53, 54, 55, 56, 57, 58, 59, 60, 61, 62, 63, 64] (by decide +kernel) (by decide +kernel)
set_option maxRecDepth 20000 in
theorem gX10_match_X10_layFault : GoodIn wsX10_match (wsV RX10 255 RX10 yX10_layFault wsX10_layFault) := goodIn_app (goodIn_of _ (by decide +kernel)) ggX10_match_X10_layFault
set_option maxRecDepth 20000 in
theorem ggX10_match_X10_layPhases : GoodIn wsX10_match wsX10_layPhases := goodIn_r _ [24, 25, 12, 39, 40, 41, 42, 43, 44, 45, 46, 47, 48, 49, 50, 51, 52, 53, 54, 55, 56, 57, 58, 59, 60, 61, 62, 63, 64] (by decide +kernel) (by decide +kernel)
set_option maxRecDepth 20000 in
theorem gX10_match_X10_layPhases : GoodIn wsX10_match (wsV RX10 258 RX10 yX10_layPhases wsX10_layPhases) := goodIn_app (goodIn_of _ (by decide +kernel)) ggX10_match_X10_layPhases
set_option maxRecDepth 20000 in
theorem ggX10_match_X10_isAsPhases : GoodIn wsX10_match wsX10_isAsPhases := goodIn_r _ [29, 14, 25, 30, 31, 32, 33, 34, 5, 35, 36, 37, 38, 39, 40, 41, 42, 43, 44, 45, 46, 47, 48, 49, 50, 51, 52, 53, 54, 55, 56, 57, 58, 59, 60, 61, 62, 63, 64] (by decide +kernel) (by decide +kernel)
set_option maxRecDepth 20000 in
theorem gX10_match_X10_isAsPhases : GoodIn wsX10_match (wsV RX10 282 RX10 yX10_isAsPhases wsX10_isAsPhases) := goodIn_app (goodIn_of _ (by decide +kernel)) ggX10_match_X10_isAsPhases
theorem dX10_match_0 : decode cX10_match 0 = .ok (.iload_n 1, 1) := by decide +kernel
theorem dX10_match_1 : decode cX10_match 1 = .ok (.i2l, 1) := by decide +kernel
theorem dX10_match_2 : decode cX10_match 2 = .ok (.lconst 0, 1) := by decide +kernel
theorem dX10_match_3 : decode cX10_match 3 = .ok (.lconst 1, 1) := by decide +kernel
theorem dX10_match_4 : decode cX10_match 4 = .ok (.invokestatic 66, 3) := by decide +kernel
theorem dX10_match_7 : decode cX10_match 7 = .ok (.ifCond .ne 6, 3) := by decide +kernel
theorem dX10_match_10 : decode cX10_match 10 = .ok (.ldc 70, 2) := by decide +kernel
theorem dX10_match_12 : decode cX10_match 12 = .ok (.ireturn, 1) := by decide +kernel
theorem dX10_match_13 : decode cX10_match 13 = .ok (.iconst 0, 1) := by decide +kernel
theorem dX10_match_14 : decode cX10_match 14 = .ok (.istore_n 2, 1) := by decide +kernel
theorem dX10_match_15 : decode cX10_match 15 = .ok (.iconst (-1), 1) := by decide +kernel
theorem dX10_match_16 : decode cX10_match 16 = .ok (.istore_n 3, 1) := by decide +kernel
theorem dX10_match_17 : decode cX10_match 17 = .ok (.iconst 0, 1) := by decide +kernel
theorem dX10_match_18 : decode cX10_match 18 = .ok (.istore 4, 2) := by decide +kernel
theorem dX10_match_20 : decode cX10_match 20 = .ok (.iload 4, 2) := by decide +kernel
theorem dX10_match_22 : decode cX10_match 22 = .ok (.iconst 4, 1) := by decide +kernel
theorem dX10_match_23 : decode cX10_match 23 = .ok (.if_icmp .ge 90, 3) := by decide +kernel
theorem dX10_match_26 : decode cX10_match 26 = .ok (.iconst 0, 1) := by decide +kernel
theorem dX10_match_27 : decode cX10_match 27 = .ok (.istore 5, 2) := by decide +kernel
theorem dX10_match_29 : decode cX10_match 29 = .ok (.iload 5, 2) := by decide +kernel
theorem dX10_match_31 : decode cX10_match 31 = .ok (.bipush 10, 2) := by decide +kernel
theorem dX10_match_33 : decode cX10_match 33 = .ok (.aload_n 0, 1) := by decide +kernel
theorem dX10_match_34 : decode cX10_match 34 = .ok (.getfield 20, 3) := by decide +kernel
theorem dX10_match_37 : decode cX10_match 37 = .ok (.imul, 1) := by decide +kernel
theorem dX10_match_38 : decode cX10_match 38 = .ok (.if_icmp .ge 69, 3) := by decide +kernel
theorem dX10_match_41 : decode cX10_match 41 = .ok (.aload_n 0, 1) := by decide +kernel
theorem dX10_match_42 : decode cX10_match 42 = .ok (.iload 4, 2) := by decide +kernel
theorem dX10_match_44 : decode cX10_match 44 = .ok (.iload 5, 2) := by decide +kernel
theorem dX10_match_46 : decode cX10_match 46 = .ok (.bipush 10, 2) := by decide +kernel
theorem dX10_match_48 : decode cX10_match 48 = .ok (.idiv, 1) := by decide +kernel
theorem dX10_match_49 : decode cX10_match 49 = .ok (.iload 5, 2) := by decide +kernel
theorem dX10_match_51 : decode cX10_match 51 = .ok (.bipush 10, 2) := by decide +kernel
theorem dX10_match_53 : decode cX10_match 53 = .ok (.irem, 1) := by decide +kernel
theorem dX10_match_54 : decode cX10_match 54 = .ok (.invokevirtual 255, 3) := by decide +kernel
theorem dX10_match_57 : decode cX10_match 57 = .ok (.aload_n 0, 1) := by decide +kernel
theorem dX10_match_58 : decode cX10_match 58 = .ok (.invokevirtual 258, 3) := by decide +kernel
theorem dX10_match_61 : decode cX10_match 61 = .ok (.aload_n 0, 1) := by decide +kernel
theorem dX10_match_62 : decode cX10_match 62 = .ok (.invokevirtual 282, 3) := by decide +kernel
theorem dX10_match_65 : decode cX10_match 65 = .ok (.ifCond .eq 36, 3) := by decide +kernel
theorem dX10_match_68 : decode cX10_match 68 = .ok (.iload_n 2, 1) := by decide +kernel
theorem dX10_match_69 : decode cX10_match 69 = .ok (.ifCond .ne 27, 3) := by decide +kernel
theorem dX10_match_72 : decode cX10_match 72 = .ok (.sipush 10000, 3) := by decide +kernel
theorem dX10_match_75 : decode cX10_match 75 = .ok (.iload 4, 2) := by decide +kernel
theorem dX10_match_77 : decode cX10_match 77 = .ok (.imul, 1) := by decide +kernel
theorem dX10_match_78 : decode cX10_match 78 = .ok (.bipush 100, 2) := by decide +kernel
theorem dX10_match_80 : decode cX10_match 80 = .ok (.iload 5, 2) := by decide +kernel
theorem dX10_match_82 : decode cX10_match 82 = .ok (.bipush 10, 2) := by decide +kernel
theorem dX10_match_84 : decode cX10_match 84 = .ok (.idiv, 1) := by decide +kernel
theorem dX10_match_85 : decode cX10_match 85 = .ok (.imul, 1) := by decide +kernel
theorem dX10_match_86 : decode cX10_match 86 = .ok (.iadd, 1) := by decide +kernel
theorem dX10_match_87 : decode cX10_match 87 = .ok (.iload 5, 2) := by decide +kernel
theorem dX10_match_89 : decode cX10_match 89 = .ok (.bipush 10, 2) := by decide +kernel
theorem dX10_match_91 : decode cX10_match 91 = .ok (.irem, 1) := by decide +kernel
theorem dX10_match_92 : decode cX10_match 92 = .ok (.iadd, 1) := by decide +kernel
theorem dX10_match_93 : decode cX10_match 93 = .ok (.goto 4, 3) := by decide +kernel
theorem dX10_match_96 : decode cX10_match 96 = .ok (.iload_n 3, 1) := by decide +kernel
theorem dX10_match_97 : decode cX10_match 97 = .ok (.istore_n 3, 1) := by decide +kernel
theorem dX10_match_98 : decode cX10_match 98 = .ok (.iinc 2 1, 3) := by decide +kernel
theorem dX10_match_101 : decode cX10_match 101 = .ok (.iinc 5 1, 3) := by decide +kernel
theorem dX10_match_104 : decode cX10_match 104 = .ok (.goto (-75), 3) := by decide +kernel
theorem dX10_match_107 : decode cX10_match 107 = .ok (.iinc 4 1, 3) := by decide +kernel
theorem dX10_match_110 : decode cX10_match 110 = .ok (.goto (-90), 3) := by decide +kernel
theorem dX10_match_113 : decode cX10_match 113 = .ok (.iload_n 1, 1) := by decide +kernel
theorem dX10_match_114 : decode cX10_match 114 = .ok (.ifCond .ne 7, 3) := by decide +kernel
theorem dX10_match_117 : decode cX10_match 117 = .ok (.iload_n 2, 1) := by decide +kernel
theorem dX10_match_118 : decode cX10_match 118 = .ok (.goto 4, 3) := by decide +kernel
theorem dX10_match_121 : decode cX10_match 121 = .ok (.iload_n 3, 1) := by decide +kernel
theorem dX10_match_122 : decode cX10_match 122 = .ok (.ireturn, 1) := by decide +kernel
set_option maxRecDepth 20000 in
theorem ggX10_isStore_X10_in : GoodIn wsX10_isStore wsX10_in := goodIn_r _ [5] (by decide +kernel) (by decide +kernel)
set_option maxRecDepth 20000 in
theorem gX10_isStore_X10_in : GoodIn wsX10_isStore (va_wsS RX10 66 yX10_in wsX10_in) := goodIn_app (goodIn_of _ (by decide +kernel)) ggX10_isStore_X10_in
theorem dX10_isStore_0 : decode cX10_isStore 0 = .ok (.iload_n 0, 1) := by decide +kernel
theorem dX10_isStore_1 : decode cX10_isStore 1 = .ok (.i2l, 1) := by decide +kernel
theorem dX10_isStore_2 : decode cX10_isStore 2 = .ok (.lconst 0, 1) := by decide +kernel
theorem dX10_isStore_3 : decode cX10_isStore 3 = .ok (.ldc2_w 197, 3) := by decide +kernel
theorem dX10_isStore_6 : decode cX10_isStore 6 = .ok (.invokestatic 66, 3) := by decide +kernel
theorem dX10_isStore_9 : decode cX10_isStore 9 = .ok (.ireturn, 1) := by decide +kernel
set_option maxRecDepth 20000 in
theorem ggX10_store_X10_isStore : GoodIn wsX10_store wsX10_isStore := goodIn_r _ [6, 7, 8, 9, 5, 10] (by decide +kernel) (by decide +kernel)
set_option maxRecDepth 20000 in
theorem gX10_store_X10_isStore : GoodIn wsX10_store (va_wsS RX10 285 yX10_isStore wsX10_isStore) := goodIn_app (goodIn_of _ (by decide +kernel)) ggX10_store_X10_isStore
theorem dX10_store_0 : decode cX10_store 0 = .ok (.iload_n 1, 1) := by decide +kernel
theorem dX10_store_1 : decode cX10_store 1 = .ok (.invokestatic 285, 3) := by decide +kernel
theorem dX10_store_4 : decode cX10_store 4 = .ok (.ifCond .ne 6, 3) := by decide +kernel
theorem dX10_store_7 : decode cX10_store 7 = .ok (.ldc 145, 2) := by decide +kernel
theorem dX10_store_9 : decode cX10_store 9 = .ok (.ireturn, 1) := by decide +kernel
theorem dX10_store_10 : decode cX10_store 10 = .ok (.aload_n 0, 1) := by decide +kernel
theorem dX10_store_11 : decode cX10_store 11 = .ok (.getfield 40, 3) := by decide +kernel
theorem dX10_store_14 : decode cX10_store 14 = .ok (.iload_n 1, 1) := by decide +kernel
theorem dX10_store_15 : decode cX10_store 15 = .ok (.iconst 0, 1) := by decide +kernel
theorem dX10_store_16 : decode cX10_store 16 = .ok (.iastore, 1) := by decide +kernel
theorem dX10_store_17 : decode cX10_store 17 = .ok (.iconst 0, 1) := by decide +kernel
theorem dX10_store_18 : decode cX10_store 18 = .ok (.ireturn, 1) := by decide +kernel
set_option maxRecDepth 20000 in
theorem ggX10_put_X10_isStore : GoodIn wsX10_put wsX10_isStore := goodIn_r _ [14, 15, 16, 17, 13, 18] (by decide +kernel) (by decide +kernel)
set_option maxRecDepth 20000 in
theorem gX10_put_X10_isStore : GoodIn wsX10_put (va_wsS RX10 285 yX10_isStore wsX10_isStore) := goodIn_app (goodIn_of _ (by decide +kernel)) ggX10_put_X10_isStore
set_option maxRecDepth 20000 in
theorem ggX10_put_X10_in : GoodIn wsX10_put wsX10_in := goodIn_r _ [18] (by decide +kernel) (by decide +kernel)
set_option maxRecDepth 20000 in
theorem gX10_put_X10_in : GoodIn wsX10_put (va_wsS RX10 66 yX10_in wsX10_in) := goodIn_app (goodIn_of _ (by decide +kernel)) ggX10_put_X10_in
theorem dX10_put_0 : decode cX10_put 0 = .ok (.iload_n 1, 1) := by decide +kernel
theorem dX10_put_1 : decode cX10_put 1 = .ok (.invokestatic 285, 3) := by decide +kernel
theorem dX10_put_4 : decode cX10_put 4 = .ok (.ifCond .ne 6, 3) := by decide +kernel
theorem dX10_put_7 : decode cX10_put 7 = .ok (.ldc 145, 2) := by decide +kernel
theorem dX10_put_9 : decode cX10_put 9 = .ok (.ireturn, 1) := by decide +kernel
theorem dX10_put_10 : decode cX10_put 10 = .ok (.iload_n 2, 1) := by decide +kernel
theorem dX10_put_11 : decode cX10_put 11 = .ok (.i2l, 1) := by decide +kernel
theorem dX10_put_12 : decode cX10_put 12 = .ok (.lconst 0, 1) := by decide +kernel
theorem dX10_put_13 : decode cX10_put 13 = .ok (.lconst 1, 1) := by decide +kernel
theorem dX10_put_14 : decode cX10_put 14 = .ok (.invokestatic 66, 3) := by decide +kernel
theorem dX10_put_17 : decode cX10_put 17 = .ok (.ifCond .eq 32, 3) := by decide +kernel
theorem dX10_put_20 : decode cX10_put 20 = .ok (.iload_n 3, 1) := by decide +kernel
theorem dX10_put_21 : decode cX10_put 21 = .ok (.i2l, 1) := by decide +kernel
theorem dX10_put_22 : decode cX10_put 22 = .ok (.ldc2_w 202, 3) := by decide +kernel
theorem dX10_put_25 : decode cX10_put 25 = .ok (.ldc2_w 204, 3) := by decide +kernel
theorem dX10_put_28 : decode cX10_put 28 = .ok (.invokestatic 66, 3) := by decide +kernel
theorem dX10_put_31 : decode cX10_put 31 = .ok (.ifCond .eq 18, 3) := by decide +kernel
theorem dX10_put_34 : decode cX10_put 34 = .ok (.iload 4, 2) := by decide +kernel
theorem dX10_put_36 : decode cX10_put 36 = .ok (.i2l, 1) := by decide +kernel
theorem dX10_put_37 : decode cX10_put 37 = .ok (.ldc2_w 202, 3) := by decide +kernel
theorem dX10_put_40 : decode cX10_put 40 = .ok (.ldc2_w 204, 3) := by decide +kernel
theorem dX10_put_43 : decode cX10_put 43 = .ok (.invokestatic 66, 3) := by decide +kernel
theorem dX10_put_46 : decode cX10_put 46 = .ok (.ifCond .ne 6, 3) := by decide +kernel
theorem dX10_put_49 : decode cX10_put 49 = .ok (.ldc 70, 2) := by decide +kernel
theorem dX10_put_51 : decode cX10_put 51 = .ok (.ireturn, 1) := by decide +kernel
theorem dX10_put_52 : decode cX10_put 52 = .ok (.aload_n 0, 1) := by decide +kernel
theorem dX10_put_53 : decode cX10_put 53 = .ok (.getfield 40, 3) := by decide +kernel
theorem dX10_put_56 : decode cX10_put 56 = .ok (.iload_n 1, 1) := by decide +kernel
theorem dX10_put_57 : decode cX10_put 57 = .ok (.iaload, 1) := by decide +kernel
theorem dX10_put_58 : decode cX10_put 58 = .ok (.ifCond .ge 7, 3) := by decide +kernel
theorem dX10_put_61 : decode cX10_put 61 = .ok (.ldc_w 288, 3) := by decide +kernel
theorem dX10_put_64 : decode cX10_put 64 = .ok (.ireturn, 1) := by decide +kernel
theorem dX10_put_65 : decode cX10_put 65 = .ok (.aload_n 0, 1) := by decide +kernel
theorem dX10_put_66 : decode cX10_put 66 = .ok (.getfield 40, 3) := by decide +kernel
theorem dX10_put_69 : decode cX10_put 69 = .ok (.iload_n 1, 1) := by decide +kernel
theorem dX10_put_70 : decode cX10_put 70 = .ok (.iaload, 1) := by decide +kernel
theorem dX10_put_71 : decode cX10_put 71 = .ok (.bipush 8, 2) := by decide +kernel
theorem dX10_put_73 : decode cX10_put 73 = .ok (.if_icmp .ne 7, 3) := by decide +kernel
theorem dX10_put_76 : decode cX10_put 76 = .ok (.ldc_w 289, 3) := by decide +kernel
theorem dX10_put_79 : decode cX10_put 79 = .ok (.ireturn, 1) := by decide +kernel
theorem dX10_put_80 : decode cX10_put 80 = .ok (.bipush 8, 2) := by decide +kernel
theorem dX10_put_82 : decode cX10_put 82 = .ok (.iload_n 1, 1) := by decide +kernel
theorem dX10_put_83 : decode cX10_put 83 = .ok (.imul, 1) := by decide +kernel
theorem dX10_put_84 : decode cX10_put 84 = .ok (.aload_n 0, 1) := by decide +kernel
theorem dX10_put_85 : decode cX10_put 85 = .ok (.getfield 40, 3) := by decide +kernel
theorem dX10_put_88 : decode cX10_put 88 = .ok (.iload_n 1, 1) := by decide +kernel
theorem dX10_put_89 : decode cX10_put 89 = .ok (.iaload, 1) := by decide +kernel
theorem dX10_put_90 : decode cX10_put 90 = .ok (.iadd, 1) := by decide +kernel
theorem dX10_put_91 : decode cX10_put 91 = .ok (.istore 5, 2) := by decide +kernel
theorem dX10_put_93 : decode cX10_put 93 = .ok (.aload_n 0, 1) := by decide +kernel
theorem dX10_put_94 : decode cX10_put 94 = .ok (.getfield 43, 3) := by decide +kernel
theorem dX10_put_97 : decode cX10_put 97 = .ok (.iload 5, 2) := by decide +kernel
theorem dX10_put_99 : decode cX10_put 99 = .ok (.iload_n 2, 1) := by decide +kernel
theorem dX10_put_100 : decode cX10_put 100 = .ok (.iastore, 1) := by decide +kernel
theorem dX10_put_101 : decode cX10_put 101 = .ok (.aload_n 0, 1) := by decide +kernel
theorem dX10_put_102 : decode cX10_put 102 = .ok (.getfield 46, 3) := by decide +kernel
theorem dX10_put_105 : decode cX10_put 105 = .ok (.iload 5, 2) := by decide +kernel
theorem dX10_put_107 : decode cX10_put 107 = .ok (.iload_n 3, 1) := by decide +kernel
theorem dX10_put_108 : decode cX10_put 108 = .ok (.iastore, 1) := by decide +kernel
theorem dX10_put_109 : decode cX10_put 109 = .ok (.aload_n 0, 1) := by decide +kernel
theorem dX10_put_110 : decode cX10_put 110 = .ok (.getfield 49, 3) := by decide +kernel
theorem dX10_put_113 : decode cX10_put 113 = .ok (.iload 5, 2) := by decide +kernel
theorem dX10_put_115 : decode cX10_put 115 = .ok (.iload_n 2, 1) := by decide +kernel
theorem dX10_put_116 : decode cX10_put 116 = .ok (.iconst 1, 1) := by decide +kernel
theorem dX10_put_117 : decode cX10_put 117 = .ok (.if_icmp .ne 8, 3) := by decide +kernel
theorem dX10_put_120 : decode cX10_put 120 = .ok (.iload 4, 2) := by decide +kernel
theorem dX10_put_122 : decode cX10_put 122 = .ok (.goto 4, 3) := by decide +kernel
theorem dX10_put_125 : decode cX10_put 125 = .ok (.iconst 0, 1) := by decide +kernel
theorem dX10_put_126 : decode cX10_put 126 = .ok (.iastore, 1) := by decide +kernel
theorem dX10_put_127 : decode cX10_put 127 = .ok (.aload_n 0, 1) := by decide +kernel
theorem dX10_put_128 : decode cX10_put 128 = .ok (.getfield 40, 3) := by decide +kernel
theorem dX10_put_131 : decode cX10_put 131 = .ok (.iload_n 1, 1) := by decide +kernel
theorem dX10_put_132 : decode cX10_put 132 = .ok (.dup2, 1) := by decide +kernel
theorem dX10_put_133 : decode cX10_put 133 = .ok (.iaload, 1) := by decide +kernel
theorem dX10_put_134 : decode cX10_put 134 = .ok (.iconst 1, 1) := by decide +kernel
theorem dX10_put_135 : decode cX10_put 135 = .ok (.iadd, 1) := by decide +kernel
theorem dX10_put_136 : decode cX10_put 136 = .ok (.iastore, 1) := by decide +kernel
theorem dX10_put_137 : decode cX10_put 137 = .ok (.aload_n 0, 1) := by decide +kernel
theorem dX10_put_138 : decode cX10_put 138 = .ok (.getfield 40, 3) := by decide +kernel
theorem dX10_put_141 : decode cX10_put 141 = .ok (.iload_n 1, 1) := by decide +kernel
theorem dX10_put_142 : decode cX10_put 142 = .ok (.iaload, 1) := by decide +kernel
theorem dX10_put_143 : decode cX10_put 143 = .ok (.ireturn, 1) := by decide +kernel
set_option maxRecDepth 20000 in
theorem ggX10_take_X10_isStore : GoodIn wsX10_take wsX10_isStore := goodIn_r _ [13, 14, 15, 16, 12, 17] (by decide +kernel) (by decide +kernel)
set_option maxRecDepth 20000 in
theorem gX10_take_X10_isStore : GoodIn wsX10_take (va_wsS RX10 285 yX10_isStore wsX10_isStore) := goodIn_app (goodIn_of _ (by decide +kernel)) ggX10_take_X10_isStore
set_option maxRecDepth 20000 in
theorem ggX10_take_X10_in : GoodIn wsX10_take wsX10_in := goodIn_r _ [17] (by decide +kernel) (by decide +kernel)
set_option maxRecDepth 20000 in
theorem gX10_take_X10_in : GoodIn wsX10_take (va_wsS RX10 66 yX10_in wsX10_in) := goodIn_app (goodIn_of _ (by decide +kernel)) ggX10_take_X10_in
theorem dX10_take_0 : decode cX10_take 0 = .ok (.iload_n 1, 1) := by decide +kernel
theorem dX10_take_1 : decode cX10_take 1 = .ok (.invokestatic 285, 3) := by decide +kernel
theorem dX10_take_4 : decode cX10_take 4 = .ok (.ifCond .ne 6, 3) := by decide +kernel
theorem dX10_take_7 : decode cX10_take 7 = .ok (.ldc 145, 2) := by decide +kernel
theorem dX10_take_9 : decode cX10_take 9 = .ok (.ireturn, 1) := by decide +kernel
theorem dX10_take_10 : decode cX10_take 10 = .ok (.iload_n 2, 1) := by decide +kernel
theorem dX10_take_11 : decode cX10_take 11 = .ok (.i2l, 1) := by decide +kernel
theorem dX10_take_12 : decode cX10_take 12 = .ok (.lconst 0, 1) := by decide +kernel
theorem dX10_take_13 : decode cX10_take 13 = .ok (.lconst 1, 1) := by decide +kernel
theorem dX10_take_14 : decode cX10_take 14 = .ok (.invokestatic 66, 3) := by decide +kernel
theorem dX10_take_17 : decode cX10_take 17 = .ok (.ifCond .ne 6, 3) := by decide +kernel
theorem dX10_take_20 : decode cX10_take 20 = .ok (.ldc 70, 2) := by decide +kernel
theorem dX10_take_22 : decode cX10_take 22 = .ok (.ireturn, 1) := by decide +kernel
theorem dX10_take_23 : decode cX10_take 23 = .ok (.aload_n 0, 1) := by decide +kernel
theorem dX10_take_24 : decode cX10_take 24 = .ok (.getfield 40, 3) := by decide +kernel
theorem dX10_take_27 : decode cX10_take 27 = .ok (.iload_n 1, 1) := by decide +kernel
theorem dX10_take_28 : decode cX10_take 28 = .ok (.iaload, 1) := by decide +kernel
theorem dX10_take_29 : decode cX10_take 29 = .ok (.iconst 1, 1) := by decide +kernel
theorem dX10_take_30 : decode cX10_take 30 = .ok (.if_icmp .ge 22, 3) := by decide +kernel
theorem dX10_take_33 : decode cX10_take 33 = .ok (.aload_n 0, 1) := by decide +kernel
theorem dX10_take_34 : decode cX10_take 34 = .ok (.getfield 40, 3) := by decide +kernel
theorem dX10_take_37 : decode cX10_take 37 = .ok (.iload_n 1, 1) := by decide +kernel
theorem dX10_take_38 : decode cX10_take 38 = .ok (.iaload, 1) := by decide +kernel
theorem dX10_take_39 : decode cX10_take 39 = .ok (.ifCond .ge 9, 3) := by decide +kernel
theorem dX10_take_42 : decode cX10_take 42 = .ok (.ldc_w 288, 3) := by decide +kernel
theorem dX10_take_45 : decode cX10_take 45 = .ok (.goto 6, 3) := by decide +kernel
theorem dX10_take_48 : decode cX10_take 48 = .ok (.ldc_w 290, 3) := by decide +kernel
theorem dX10_take_51 : decode cX10_take 51 = .ok (.ireturn, 1) := by decide +kernel
theorem dX10_take_52 : decode cX10_take 52 = .ok (.bipush 8, 2) := by decide +kernel
theorem dX10_take_54 : decode cX10_take 54 = .ok (.iload_n 1, 1) := by decide +kernel
theorem dX10_take_55 : decode cX10_take 55 = .ok (.imul, 1) := by decide +kernel
theorem dX10_take_56 : decode cX10_take 56 = .ok (.aload_n 0, 1) := by decide +kernel
theorem dX10_take_57 : decode cX10_take 57 = .ok (.getfield 40, 3) := by decide +kernel
theorem dX10_take_60 : decode cX10_take 60 = .ok (.iload_n 1, 1) := by decide +kernel
theorem dX10_take_61 : decode cX10_take 61 = .ok (.iaload, 1) := by decide +kernel
theorem dX10_take_62 : decode cX10_take 62 = .ok (.iadd, 1) := by decide +kernel
theorem dX10_take_63 : decode cX10_take 63 = .ok (.iconst 1, 1) := by decide +kernel
theorem dX10_take_64 : decode cX10_take 64 = .ok (.isub, 1) := by decide +kernel
theorem dX10_take_65 : decode cX10_take 65 = .ok (.istore_n 3, 1) := by decide +kernel
theorem dX10_take_66 : decode cX10_take 66 = .ok (.aload_n 0, 1) := by decide +kernel
theorem dX10_take_67 : decode cX10_take 67 = .ok (.getfield 43, 3) := by decide +kernel
theorem dX10_take_70 : decode cX10_take 70 = .ok (.iload_n 3, 1) := by decide +kernel
theorem dX10_take_71 : decode cX10_take 71 = .ok (.iaload, 1) := by decide +kernel
theorem dX10_take_72 : decode cX10_take 72 = .ok (.iload_n 2, 1) := by decide +kernel
theorem dX10_take_73 : decode cX10_take 73 = .ok (.if_icmp .eq 7, 3) := by decide +kernel
theorem dX10_take_76 : decode cX10_take 76 = .ok (.ldc_w 291, 3) := by decide +kernel
theorem dX10_take_79 : decode cX10_take 79 = .ok (.ireturn, 1) := by decide +kernel
theorem dX10_take_80 : decode cX10_take 80 = .ok (.aload_n 0, 1) := by decide +kernel
theorem dX10_take_81 : decode cX10_take 81 = .ok (.getfield 40, 3) := by decide +kernel
theorem dX10_take_84 : decode cX10_take 84 = .ok (.iload_n 1, 1) := by decide +kernel
theorem dX10_take_85 : decode cX10_take 85 = .ok (.dup2, 1) := by decide +kernel
theorem dX10_take_86 : decode cX10_take 86 = .ok (.iaload, 1) := by decide +kernel
theorem dX10_take_87 : decode cX10_take 87 = .ok (.iconst 1, 1) := by decide +kernel
theorem dX10_take_88 : decode cX10_take 88 = .ok (.isub, 1) := by decide +kernel
theorem dX10_take_89 : decode cX10_take 89 = .ok (.iastore, 1) := by decide +kernel
theorem dX10_take_90 : decode cX10_take 90 = .ok (.aload_n 0, 1) := by decide +kernel
theorem dX10_take_91 : decode cX10_take 91 = .ok (.getfield 46, 3) := by decide +kernel
theorem dX10_take_94 : decode cX10_take 94 = .ok (.iload_n 3, 1) := by decide +kernel
theorem dX10_take_95 : decode cX10_take 95 = .ok (.iaload, 1) := by decide +kernel
theorem dX10_take_96 : decode cX10_take 96 = .ok (.istore 4, 2) := by decide +kernel
theorem dX10_take_98 : decode cX10_take 98 = .ok (.aload_n 0, 1) := by decide +kernel
theorem dX10_take_99 : decode cX10_take 99 = .ok (.getfield 49, 3) := by decide +kernel
theorem dX10_take_102 : decode cX10_take 102 = .ok (.iload_n 3, 1) := by decide +kernel
theorem dX10_take_103 : decode cX10_take 103 = .ok (.iaload, 1) := by decide +kernel
theorem dX10_take_104 : decode cX10_take 104 = .ok (.istore 5, 2) := by decide +kernel
theorem dX10_take_106 : decode cX10_take 106 = .ok (.iload_n 2, 1) := by decide +kernel
theorem dX10_take_107 : decode cX10_take 107 = .ok (.ifCond .ne 8, 3) := by decide +kernel
theorem dX10_take_110 : decode cX10_take 110 = .ok (.iload 4, 2) := by decide +kernel
theorem dX10_take_112 : decode cX10_take 112 = .ok (.goto 20, 3) := by decide +kernel
theorem dX10_take_115 : decode cX10_take 115 = .ok (.iload 4, 2) := by decide +kernel
theorem dX10_take_117 : decode cX10_take 117 = .ok (.iload 4, 2) := by decide +kernel
theorem dX10_take_119 : decode cX10_take 119 = .ok (.imul, 1) := by decide +kernel
theorem dX10_take_120 : decode cX10_take 120 = .ok (.iload 4, 2) := by decide +kernel
theorem dX10_take_122 : decode cX10_take 122 = .ok (.iload 5, 2) := by decide +kernel
theorem dX10_take_124 : decode cX10_take 124 = .ok (.imul, 1) := by decide +kernel
theorem dX10_take_125 : decode cX10_take 125 = .ok (.isub, 1) := by decide +kernel
theorem dX10_take_126 : decode cX10_take 126 = .ok (.iload 5, 2) := by decide +kernel
theorem dX10_take_128 : decode cX10_take 128 = .ok (.iload 5, 2) := by decide +kernel
theorem dX10_take_130 : decode cX10_take 130 = .ok (.imul, 1) := by decide +kernel
theorem dX10_take_131 : decode cX10_take 131 = .ok (.iadd, 1) := by decide +kernel
theorem dX10_take_132 : decode cX10_take 132 = .ok (.ireturn, 1) := by decide +kernel
set_option maxRecDepth 20000 in
theorem ggX10_sum_X10_isStore : GoodIn wsX10_sum wsX10_isStore := goodIn_r _ [12, 2, 13, 14, 11, 15] (by decide +kernel) (by decide +kernel)
set_option maxRecDepth 20000 in
theorem gX10_sum_X10_isStore : GoodIn wsX10_sum (va_wsS RX10 285 yX10_isStore wsX10_isStore) := goodIn_app (goodIn_of _ (by decide +kernel)) ggX10_sum_X10_isStore
set_option maxRecDepth 20000 in
theorem ggX10_sum_X10_in : GoodIn wsX10_sum wsX10_in := goodIn_r _ [15] (by decide +kernel) (by decide +kernel)
set_option maxRecDepth 20000 in
theorem gX10_sum_X10_in : GoodIn wsX10_sum (va_wsS RX10 66 yX10_in wsX10_in) := goodIn_app (goodIn_of _ (by decide +kernel)) ggX10_sum_X10_in
theorem dX10_sum_0 : decode cX10_sum 0 = .ok (.iload_n 1, 1) := by decide +kernel
theorem dX10_sum_1 : decode cX10_sum 1 = .ok (.invokestatic 285, 3) := by decide +kernel
theorem dX10_sum_4 : decode cX10_sum 4 = .ok (.ifCond .ne 6, 3) := by decide +kernel
theorem dX10_sum_7 : decode cX10_sum 7 = .ok (.ldc 145, 2) := by decide +kernel
theorem dX10_sum_9 : decode cX10_sum 9 = .ok (.ireturn, 1) := by decide +kernel
theorem dX10_sum_10 : decode cX10_sum 10 = .ok (.iload_n 2, 1) := by decide +kernel
theorem dX10_sum_11 : decode cX10_sum 11 = .ok (.i2l, 1) := by decide +kernel
theorem dX10_sum_12 : decode cX10_sum 12 = .ok (.lconst 0, 1) := by decide +kernel
theorem dX10_sum_13 : decode cX10_sum 13 = .ok (.ldc2_w 197, 3) := by decide +kernel
theorem dX10_sum_16 : decode cX10_sum 16 = .ok (.invokestatic 66, 3) := by decide +kernel
theorem dX10_sum_19 : decode cX10_sum 19 = .ok (.ifCond .ne 6, 3) := by decide +kernel
theorem dX10_sum_22 : decode cX10_sum 22 = .ok (.ldc 70, 2) := by decide +kernel
theorem dX10_sum_24 : decode cX10_sum 24 = .ok (.ireturn, 1) := by decide +kernel
theorem dX10_sum_25 : decode cX10_sum 25 = .ok (.aload_n 0, 1) := by decide +kernel
theorem dX10_sum_26 : decode cX10_sum 26 = .ok (.getfield 40, 3) := by decide +kernel
theorem dX10_sum_29 : decode cX10_sum 29 = .ok (.iload_n 1, 1) := by decide +kernel
theorem dX10_sum_30 : decode cX10_sum 30 = .ok (.iaload, 1) := by decide +kernel
theorem dX10_sum_31 : decode cX10_sum 31 = .ok (.ifCond .ge 7, 3) := by decide +kernel
theorem dX10_sum_34 : decode cX10_sum 34 = .ok (.ldc_w 288, 3) := by decide +kernel
theorem dX10_sum_37 : decode cX10_sum 37 = .ok (.ireturn, 1) := by decide +kernel
theorem dX10_sum_38 : decode cX10_sum 38 = .ok (.iconst 0, 1) := by decide +kernel
theorem dX10_sum_39 : decode cX10_sum 39 = .ok (.istore_n 3, 1) := by decide +kernel
theorem dX10_sum_40 : decode cX10_sum 40 = .ok (.iconst 0, 1) := by decide +kernel
theorem dX10_sum_41 : decode cX10_sum 41 = .ok (.istore 4, 2) := by decide +kernel
theorem dX10_sum_43 : decode cX10_sum 43 = .ok (.iconst 0, 1) := by decide +kernel
theorem dX10_sum_44 : decode cX10_sum 44 = .ok (.istore 5, 2) := by decide +kernel
theorem dX10_sum_46 : decode cX10_sum 46 = .ok (.bipush 8, 2) := by decide +kernel
theorem dX10_sum_48 : decode cX10_sum 48 = .ok (.iload_n 1, 1) := by decide +kernel
theorem dX10_sum_49 : decode cX10_sum 49 = .ok (.imul, 1) := by decide +kernel
theorem dX10_sum_50 : decode cX10_sum 50 = .ok (.istore 6, 2) := by decide +kernel
theorem dX10_sum_52 : decode cX10_sum 52 = .ok (.iload 6, 2) := by decide +kernel
theorem dX10_sum_54 : decode cX10_sum 54 = .ok (.bipush 8, 2) := by decide +kernel
theorem dX10_sum_56 : decode cX10_sum 56 = .ok (.iload_n 1, 1) := by decide +kernel
theorem dX10_sum_57 : decode cX10_sum 57 = .ok (.imul, 1) := by decide +kernel
theorem dX10_sum_58 : decode cX10_sum 58 = .ok (.aload_n 0, 1) := by decide +kernel
theorem dX10_sum_59 : decode cX10_sum 59 = .ok (.getfield 40, 3) := by decide +kernel
theorem dX10_sum_62 : decode cX10_sum 62 = .ok (.iload_n 1, 1) := by decide +kernel
theorem dX10_sum_63 : decode cX10_sum 63 = .ok (.iaload, 1) := by decide +kernel
theorem dX10_sum_64 : decode cX10_sum 64 = .ok (.iadd, 1) := by decide +kernel
theorem dX10_sum_65 : decode cX10_sum 65 = .ok (.if_icmp .ge 43, 3) := by decide +kernel
theorem dX10_sum_68 : decode cX10_sum 68 = .ok (.iload_n 3, 1) := by decide +kernel
theorem dX10_sum_69 : decode cX10_sum 69 = .ok (.aload_n 0, 1) := by decide +kernel
theorem dX10_sum_70 : decode cX10_sum 70 = .ok (.getfield 46, 3) := by decide +kernel
theorem dX10_sum_73 : decode cX10_sum 73 = .ok (.iload 6, 2) := by decide +kernel
theorem dX10_sum_75 : decode cX10_sum 75 = .ok (.iaload, 1) := by decide +kernel
theorem dX10_sum_76 : decode cX10_sum 76 = .ok (.iadd, 1) := by decide +kernel
theorem dX10_sum_77 : decode cX10_sum 77 = .ok (.istore_n 3, 1) := by decide +kernel
theorem dX10_sum_78 : decode cX10_sum 78 = .ok (.iload 4, 2) := by decide +kernel
theorem dX10_sum_80 : decode cX10_sum 80 = .ok (.aload_n 0, 1) := by decide +kernel
theorem dX10_sum_81 : decode cX10_sum 81 = .ok (.getfield 49, 3) := by decide +kernel
theorem dX10_sum_84 : decode cX10_sum 84 = .ok (.iload 6, 2) := by decide +kernel
theorem dX10_sum_86 : decode cX10_sum 86 = .ok (.iaload, 1) := by decide +kernel
theorem dX10_sum_87 : decode cX10_sum 87 = .ok (.iadd, 1) := by decide +kernel
theorem dX10_sum_88 : decode cX10_sum 88 = .ok (.istore 4, 2) := by decide +kernel
theorem dX10_sum_90 : decode cX10_sum 90 = .ok (.iload 5, 2) := by decide +kernel
theorem dX10_sum_92 : decode cX10_sum 92 = .ok (.aload_n 0, 1) := by decide +kernel
theorem dX10_sum_93 : decode cX10_sum 93 = .ok (.getfield 43, 3) := by decide +kernel
theorem dX10_sum_96 : decode cX10_sum 96 = .ok (.iload 6, 2) := by decide +kernel
theorem dX10_sum_98 : decode cX10_sum 98 = .ok (.iaload, 1) := by decide +kernel
theorem dX10_sum_99 : decode cX10_sum 99 = .ok (.iadd, 1) := by decide +kernel
theorem dX10_sum_100 : decode cX10_sum 100 = .ok (.istore 5, 2) := by decide +kernel
theorem dX10_sum_102 : decode cX10_sum 102 = .ok (.iinc 6 1, 3) := by decide +kernel
theorem dX10_sum_105 : decode cX10_sum 105 = .ok (.goto (-53), 3) := by decide +kernel
theorem dX10_sum_108 : decode cX10_sum 108 = .ok (.iload_n 2, 1) := by decide +kernel
theorem dX10_sum_109 : decode cX10_sum 109 = .ok (.ifCond .ne 7, 3) := by decide +kernel
theorem dX10_sum_112 : decode cX10_sum 112 = .ok (.iload_n 3, 1) := by decide +kernel
theorem dX10_sum_113 : decode cX10_sum 113 = .ok (.goto 15, 3) := by decide +kernel
theorem dX10_sum_116 : decode cX10_sum 116 = .ok (.iload_n 2, 1) := by decide +kernel
theorem dX10_sum_117 : decode cX10_sum 117 = .ok (.iconst 1, 1) := by decide +kernel
theorem dX10_sum_118 : decode cX10_sum 118 = .ok (.if_icmp .ne 8, 3) := by decide +kernel
theorem dX10_sum_121 : decode cX10_sum 121 = .ok (.iload 4, 2) := by decide +kernel
theorem dX10_sum_123 : decode cX10_sum 123 = .ok (.goto 5, 3) := by decide +kernel
theorem dX10_sum_126 : decode cX10_sum 126 = .ok (.iload 5, 2) := by decide +kernel
theorem dX10_sum_128 : decode cX10_sum 128 = .ok (.ireturn, 1) := by decide +kernel
set_option maxRecDepth 20000 in
theorem ggX10_drop_X10_isStore : GoodIn wsX10_drop wsX10_isStore := goodIn_r _ [7, 8, 9, 10, 6, 11] (by decide +kernel) (by decide +kernel)
set_option maxRecDepth 20000 in
theorem gX10_drop_X10_isStore : GoodIn wsX10_drop (va_wsS RX10 285 yX10_isStore wsX10_isStore) := goodIn_app (goodIn_of _ (by decide +kernel)) ggX10_drop_X10_isStore
theorem dX10_drop_0 : decode cX10_drop 0 = .ok (.iload_n 1, 1) := by decide +kernel
theorem dX10_drop_1 : decode cX10_drop 1 = .ok (.invokestatic 285, 3) := by decide +kernel
theorem dX10_drop_4 : decode cX10_drop 4 = .ok (.ifCond .ne 6, 3) := by decide +kernel
theorem dX10_drop_7 : decode cX10_drop 7 = .ok (.ldc 145, 2) := by decide +kernel
theorem dX10_drop_9 : decode cX10_drop 9 = .ok (.ireturn, 1) := by decide +kernel
theorem dX10_drop_10 : decode cX10_drop 10 = .ok (.aload_n 0, 1) := by decide +kernel
theorem dX10_drop_11 : decode cX10_drop 11 = .ok (.getfield 40, 3) := by decide +kernel
theorem dX10_drop_14 : decode cX10_drop 14 = .ok (.iload_n 1, 1) := by decide +kernel
theorem dX10_drop_15 : decode cX10_drop 15 = .ok (.iaload, 1) := by decide +kernel
theorem dX10_drop_16 : decode cX10_drop 16 = .ok (.istore_n 2, 1) := by decide +kernel
theorem dX10_drop_17 : decode cX10_drop 17 = .ok (.aload_n 0, 1) := by decide +kernel
theorem dX10_drop_18 : decode cX10_drop 18 = .ok (.getfield 40, 3) := by decide +kernel
theorem dX10_drop_21 : decode cX10_drop 21 = .ok (.iload_n 1, 1) := by decide +kernel
theorem dX10_drop_22 : decode cX10_drop 22 = .ok (.iconst (-1), 1) := by decide +kernel
theorem dX10_drop_23 : decode cX10_drop 23 = .ok (.iastore, 1) := by decide +kernel
theorem dX10_drop_24 : decode cX10_drop 24 = .ok (.iload_n 2, 1) := by decide +kernel
theorem dX10_drop_25 : decode cX10_drop 25 = .ok (.ifCond .ge 9, 3) := by decide +kernel
theorem dX10_drop_28 : decode cX10_drop 28 = .ok (.ldc_w 288, 3) := by decide +kernel
theorem dX10_drop_31 : decode cX10_drop 31 = .ok (.goto 4, 3) := by decide +kernel
theorem dX10_drop_34 : decode cX10_drop 34 = .ok (.iload_n 2, 1) := by decide +kernel
theorem dX10_drop_35 : decode cX10_drop 35 = .ok (.ireturn, 1) := by decide +kernel
theorem dX10_allThings_0 : decode cX10_allThings 0 = .ok (.iconst 0, 1) := by decide +kernel
theorem dX10_allThings_1 : decode cX10_allThings 1 = .ok (.istore_n 1, 1) := by decide +kernel
theorem dX10_allThings_2 : decode cX10_allThings 2 = .ok (.iconst 0, 1) := by decide +kernel
theorem dX10_allThings_3 : decode cX10_allThings 3 = .ok (.istore_n 2, 1) := by decide +kernel
theorem dX10_allThings_4 : decode cX10_allThings 4 = .ok (.iload_n 2, 1) := by decide +kernel
theorem dX10_allThings_5 : decode cX10_allThings 5 = .ok (.iconst 3, 1) := by decide +kernel
theorem dX10_allThings_6 : decode cX10_allThings 6 = .ok (.if_icmp .ge 31, 3) := by decide +kernel
theorem dX10_allThings_9 : decode cX10_allThings 9 = .ok (.iload_n 1, 1) := by decide +kernel
theorem dX10_allThings_10 : decode cX10_allThings 10 = .ok (.aload_n 0, 1) := by decide +kernel
theorem dX10_allThings_11 : decode cX10_allThings 11 = .ok (.getfield 40, 3) := by decide +kernel
theorem dX10_allThings_14 : decode cX10_allThings 14 = .ok (.iload_n 2, 1) := by decide +kernel
theorem dX10_allThings_15 : decode cX10_allThings 15 = .ok (.iaload, 1) := by decide +kernel
theorem dX10_allThings_16 : decode cX10_allThings 16 = .ok (.ifCond .ge 7, 3) := by decide +kernel
theorem dX10_allThings_19 : decode cX10_allThings 19 = .ok (.iconst 0, 1) := by decide +kernel
theorem dX10_allThings_20 : decode cX10_allThings 20 = .ok (.goto 9, 3) := by decide +kernel
theorem dX10_allThings_23 : decode cX10_allThings 23 = .ok (.aload_n 0, 1) := by decide +kernel
theorem dX10_allThings_24 : decode cX10_allThings 24 = .ok (.getfield 40, 3) := by decide +kernel
theorem dX10_allThings_27 : decode cX10_allThings 27 = .ok (.iload_n 2, 1) := by decide +kernel
theorem dX10_allThings_28 : decode cX10_allThings 28 = .ok (.iaload, 1) := by decide +kernel
theorem dX10_allThings_29 : decode cX10_allThings 29 = .ok (.iadd, 1) := by decide +kernel
theorem dX10_allThings_30 : decode cX10_allThings 30 = .ok (.istore_n 1, 1) := by decide +kernel
theorem dX10_allThings_31 : decode cX10_allThings 31 = .ok (.iinc 2 1, 3) := by decide +kernel
theorem dX10_allThings_34 : decode cX10_allThings 34 = .ok (.goto (-30), 3) := by decide +kernel
theorem dX10_allThings_37 : decode cX10_allThings 37 = .ok (.iload_n 1, 1) := by decide +kernel
theorem dX10_allThings_38 : decode cX10_allThings 38 = .ok (.ireturn, 1) := by decide +kernel
set_option maxRecDepth 20000 in
theorem ggX10_count_X10_allThings : GoodIn wsX10_count wsX10_allThings := goodIn_r _ [10, 11, 12, 13, 14, 15, 16, 17, 18, 19, 20, 21, 22, 23, 24, 25, 26, 27, 28, 29, 30, 31, 32, 33, 34, 35, 36, 37] (by decide +kernel) (by decide +kernel)
set_option maxRecDepth 20000 in
theorem gX10_count_X10_allThings : GoodIn wsX10_count (wsV RX10 292 RX10 yX10_allThings wsX10_allThings) := goodIn_app (goodIn_of _ (by decide +kernel)) ggX10_count_X10_allThings
theorem dX10_count_0 : decode cX10_count 0 = .ok (.iload_n 1, 1) := by decide +kernel
theorem dX10_count_1 : decode cX10_count 1 = .ok (.tableswitch 60 0 4 #[35, 40, 45, 50, 55], 35) := by decide +kernel
theorem dX10_count_36 : decode cX10_count 36 = .ok (.aload_n 0, 1) := by decide +kernel
theorem dX10_count_37 : decode cX10_count 37 = .ok (.getfield 20, 3) := by decide +kernel
theorem dX10_count_40 : decode cX10_count 40 = .ok (.ireturn, 1) := by decide +kernel
theorem dX10_count_41 : decode cX10_count 41 = .ok (.aload_n 0, 1) := by decide +kernel
theorem dX10_count_42 : decode cX10_count 42 = .ok (.getfield 16, 3) := by decide +kernel
theorem dX10_count_45 : decode cX10_count 45 = .ok (.ireturn, 1) := by decide +kernel
theorem dX10_count_46 : decode cX10_count 46 = .ok (.aload_n 0, 1) := by decide +kernel
theorem dX10_count_47 : decode cX10_count 47 = .ok (.invokevirtual 292, 3) := by decide +kernel
theorem dX10_count_50 : decode cX10_count 50 = .ok (.ireturn, 1) := by decide +kernel
theorem dX10_count_51 : decode cX10_count 51 = .ok (.aload_n 0, 1) := by decide +kernel
theorem dX10_count_52 : decode cX10_count 52 = .ok (.getfield 139, 3) := by decide +kernel
theorem dX10_count_55 : decode cX10_count 55 = .ok (.ireturn, 1) := by decide +kernel
theorem dX10_count_56 : decode cX10_count 56 = .ok (.aload_n 0, 1) := by decide +kernel
theorem dX10_count_57 : decode cX10_count 57 = .ok (.getfield 71, 3) := by decide +kernel
theorem dX10_count_60 : decode cX10_count 60 = .ok (.ireturn, 1) := by decide +kernel
theorem dX10_count_61 : decode cX10_count 61 = .ok (.ldc 70, 2) := by decide +kernel
theorem dX10_count_63 : decode cX10_count 63 = .ok (.ireturn, 1) := by decide +kernel
theorem dJ9_max_f86c9_0 : decode cJ9_max_f86c9 0 = .ok (.lload_n 0, 1) := by decide +kernel
theorem dJ9_max_f86c9_1 : decode cJ9_max_f86c9 1 = .ok (.lload_n 2, 1) := by decide +kernel
theorem dJ9_max_f86c9_2 : decode cJ9_max_f86c9 2 = .ok (.lcmp, 1) := by decide +kernel
theorem dJ9_max_f86c9_3 : decode cJ9_max_f86c9 3 = .ok (.ifCond .lt 7, 3) := by decide +kernel
theorem dJ9_max_f86c9_6 : decode cJ9_max_f86c9 6 = .ok (.lload_n 0, 1) := by decide +kernel
theorem dJ9_max_f86c9_7 : decode cJ9_max_f86c9 7 = .ok (.goto 4, 3) := by decide +kernel
theorem dJ9_max_f86c9_10 : decode cJ9_max_f86c9 10 = .ok (.lload_n 2, 1) := by decide +kernel
theorem dJ9_max_f86c9_11 : decode cJ9_max_f86c9 11 = .ok (.lreturn, 1) := by decide +kernel
theorem dJ9_min_7cf53_0 : decode cJ9_min_7cf53 0 = .ok (.iload_n 0, 1) := by decide +kernel
theorem dJ9_min_7cf53_1 : decode cJ9_min_7cf53 1 = .ok (.iload_n 1, 1) := by decide +kernel
theorem dJ9_min_7cf53_2 : decode cJ9_min_7cf53 2 = .ok (.if_icmp .gt 7, 3) := by decide +kernel
theorem dJ9_min_7cf53_5 : decode cJ9_min_7cf53 5 = .ok (.iload_n 0, 1) := by decide +kernel
theorem dJ9_min_7cf53_6 : decode cJ9_min_7cf53 6 = .ok (.goto 4, 3) := by decide +kernel
theorem dJ9_min_7cf53_9 : decode cJ9_min_7cf53 9 = .ok (.iload_n 1, 1) := by decide +kernel
theorem dJ9_min_7cf53_10 : decode cJ9_min_7cf53 10 = .ok (.ireturn, 1) := by decide +kernel
theorem dJ9_min_f86c9_0 : decode cJ9_min_f86c9 0 = .ok (.lload_n 0, 1) := by decide +kernel
theorem dJ9_min_f86c9_1 : decode cJ9_min_f86c9 1 = .ok (.lload_n 2, 1) := by decide +kernel
theorem dJ9_min_f86c9_2 : decode cJ9_min_f86c9 2 = .ok (.lcmp, 1) := by decide +kernel
theorem dJ9_min_f86c9_3 : decode cJ9_min_f86c9 3 = .ok (.ifCond .gt 7, 3) := by decide +kernel
theorem dJ9_min_f86c9_6 : decode cJ9_min_f86c9 6 = .ok (.lload_n 0, 1) := by decide +kernel
theorem dJ9_min_f86c9_7 : decode cJ9_min_f86c9 7 = .ok (.goto 4, 3) := by decide +kernel
theorem dJ9_min_f86c9_10 : decode cJ9_min_f86c9 10 = .ok (.lload_n 2, 1) := by decide +kernel
theorem dJ9_min_f86c9_11 : decode cJ9_min_f86c9 11 = .ok (.lreturn, 1) := by decide +kernel
set_option maxRecDepth 20000 in
theorem ggJ0_length_8abf5_J0_coder_7d493 : GoodIn wsJ0_length_8abf5 wsJ0_coder_7d493 := goodIn_r _ [6, 7, 8] (by decide +kernel) (by decide +kernel)
set_option maxRecDepth 20000 in
theorem gJ0_length_8abf5_J0_coder_7d493 : GoodIn wsJ0_length_8abf5 (wsV RJ0 335 RJ0 yJ0_coder_7d493 wsJ0_coder_7d493) := goodIn_app (goodIn_of _ (by decide +kernel)) ggJ0_length_8abf5_J0_coder_7d493
theorem dJ0_length_8abf5_0 : decode cJ0_length_8abf5 0 = .ok (.aload_n 0, 1) := by decide +kernel
theorem dJ0_length_8abf5_1 : decode cJ0_length_8abf5 1 = .ok (.getfield 9, 3) := by decide +kernel
theorem dJ0_length_8abf5_4 : decode cJ0_length_8abf5 4 = .ok (.arraylength, 1) := by decide +kernel
theorem dJ0_length_8abf5_5 : decode cJ0_length_8abf5 5 = .ok (.aload_n 0, 1) := by decide +kernel
theorem dJ0_length_8abf5_6 : decode cJ0_length_8abf5 6 = .ok (.invokevirtual 335, 3) := by decide +kernel
theorem dJ0_length_8abf5_9 : decode cJ0_length_8abf5 9 = .ok (.ishr, 1) := by decide +kernel
theorem dJ0_length_8abf5_10 : decode cJ0_length_8abf5 10 = .ok (.ireturn, 1) := by decide +kernel
set_option maxRecDepth 20000 in
theorem ggJ0_charAt_5068e_J0_isLatin1_aae02 : GoodIn wsJ0_charAt_5068e wsJ0_isLatin1_aae02 := goodIn_r _ [6, 7, 8] (by decide +kernel) (by decide +kernel)
set_option maxRecDepth 20000 in
theorem gJ0_charAt_5068e_J0_isLatin1_aae02 : GoodIn wsJ0_charAt_5068e (wsV RJ0 492 RJ0 yJ0_isLatin1_aae02 wsJ0_isLatin1_aae02) := goodIn_app (goodIn_of _ (by decide +kernel)) ggJ0_charAt_5068e_J0_isLatin1_aae02
set_option maxRecDepth 20000 in
theorem ggJ0_charAt_5068e_J1_charAt_3b067 : GoodIn wsJ0_charAt_5068e wsJ1_charAt_3b067 := goodIn_r _ [12, 13, 14, 5, 15, 16, 17, 18, 19, 20] (by decide +kernel) (by decide +kernel)
set_option maxRecDepth 20000 in
theorem gJ0_charAt_5068e_J1_charAt_3b067 : GoodIn wsJ0_charAt_5068e (va_wsS RJ0 495 yJ1_charAt_3b067 wsJ1_charAt_3b067) := goodIn_app (goodIn_of _ (by decide +kernel)) ggJ0_charAt_5068e_J1_charAt_3b067
set_option maxRecDepth 20000 in
theorem ggJ0_charAt_5068e_J2_charAt_3b067 : GoodIn wsJ0_charAt_5068e wsJ2_charAt_3b067 := goodIn_r _ [24, 25, 26, 23, 27, 28, 29, 30, 31, 14, 5, 15, 16, 17, 18, 19, 20, 32, 33, 34, 35, 36, 37] (by decide +kernel) (by decide +kernel)
set_option maxRecDepth 20000 in
theorem gJ0_charAt_5068e_J2_charAt_3b067 : GoodIn wsJ0_charAt_5068e (va_wsS RJ0 498 yJ2_charAt_3b067 wsJ2_charAt_3b067) := goodIn_app (goodIn_of _ (by decide +kernel)) ggJ0_charAt_5068e_J2_charAt_3b067
theorem dJ0_charAt_5068e_0 : decode cJ0_charAt_5068e 0 = .ok (.aload_n 0, 1) := by decide +kernel
theorem dJ0_charAt_5068e_1 : decode cJ0_charAt_5068e 1 = .ok (.invokevirtual 492, 3) := by decide +kernel
theorem dJ0_charAt_5068e_4 : decode cJ0_charAt_5068e 4 = .ok (.ifCond .eq 12, 3) := by decide +kernel
theorem dJ0_charAt_5068e_7 : decode cJ0_charAt_5068e 7 = .ok (.aload_n 0, 1) := by decide +kernel
theorem dJ0_charAt_5068e_8 : decode cJ0_charAt_5068e 8 = .ok (.getfield 9, 3) := by decide +kernel
theorem dJ0_charAt_5068e_11 : decode cJ0_charAt_5068e 11 = .ok (.iload_n 1, 1) := by decide +kernel
theorem dJ0_charAt_5068e_12 : decode cJ0_charAt_5068e 12 = .ok (.invokestatic 495, 3) := by decide +kernel
theorem dJ0_charAt_5068e_15 : decode cJ0_charAt_5068e 15 = .ok (.ireturn, 1) := by decide +kernel
theorem dJ0_charAt_5068e_16 : decode cJ0_charAt_5068e 16 = .ok (.aload_n 0, 1) := by decide +kernel
theorem dJ0_charAt_5068e_17 : decode cJ0_charAt_5068e 17 = .ok (.getfield 9, 3) := by decide +kernel
theorem dJ0_charAt_5068e_20 : decode cJ0_charAt_5068e 20 = .ok (.iload_n 1, 1) := by decide +kernel
theorem dJ0_charAt_5068e_21 : decode cJ0_charAt_5068e 21 = .ok (.invokestatic 498, 3) := by decide +kernel
theorem dJ0_charAt_5068e_24 : decode cJ0_charAt_5068e 24 = .ok (.ireturn, 1) := by decide +kernel
theorem dJ0_coder_7d493_0 : decode cJ0_coder_7d493 0 = .ok (.getstatic 38, 3) := by decide +kernel
theorem dJ0_coder_7d493_3 : decode cJ0_coder_7d493 3 = .ok (.ifCond .eq 10, 3) := by decide +kernel
theorem dJ0_coder_7d493_6 : decode cJ0_coder_7d493 6 = .ok (.aload_n 0, 1) := by decide +kernel
theorem dJ0_coder_7d493_7 : decode cJ0_coder_7d493 7 = .ok (.getfield 15, 3) := by decide +kernel
theorem dJ0_coder_7d493_10 : decode cJ0_coder_7d493 10 = .ok (.goto 4, 3) := by decide +kernel
theorem dJ0_coder_7d493_13 : decode cJ0_coder_7d493 13 = .ok (.iconst 1, 1) := by decide +kernel
theorem dJ0_coder_7d493_14 : decode cJ0_coder_7d493 14 = .ok (.ireturn, 1) := by decide +kernel
theorem dJ0_isLatin1_aae02_0 : decode cJ0_isLatin1_aae02 0 = .ok (.getstatic 38, 3) := by decide +kernel
theorem dJ0_isLatin1_aae02_3 : decode cJ0_isLatin1_aae02 3 = .ok (.ifCond .eq 14, 3) := by decide +kernel
theorem dJ0_isLatin1_aae02_6 : decode cJ0_isLatin1_aae02 6 = .ok (.aload_n 0, 1) := by decide +kernel
theorem dJ0_isLatin1_aae02_7 : decode cJ0_isLatin1_aae02 7 = .ok (.getfield 15, 3) := by decide +kernel
theorem dJ0_isLatin1_aae02_10 : decode cJ0_isLatin1_aae02 10 = .ok (.ifCond .ne 7, 3) := by decide +kernel
theorem dJ0_isLatin1_aae02_13 : decode cJ0_isLatin1_aae02 13 = .ok (.iconst 1, 1) := by decide +kernel
theorem dJ0_isLatin1_aae02_14 : decode cJ0_isLatin1_aae02 14 = .ok (.goto 4, 3) := by decide +kernel
theorem dJ0_isLatin1_aae02_17 : decode cJ0_isLatin1_aae02 17 = .ok (.iconst 0, 1) := by decide +kernel
theorem dJ0_isLatin1_aae02_18 : decode cJ0_isLatin1_aae02 18 = .ok (.ireturn, 1) := by decide +kernel
set_option maxRecDepth 20000 in
theorem ggJ0_checkIndex_df160_J3_checkIndex_8e157 : GoodIn wsJ0_checkIndex_df160 wsJ3_checkIndex_8e157 := goodIn_r _ [5] (by decide +kernel) (by decide +kernel)
set_option maxRecDepth 20000 in
theorem gJ0_checkIndex_df160_J3_checkIndex_8e157 : GoodIn wsJ0_checkIndex_df160 (va_wsS RJ0 1059 yJ3_checkIndex_8e157 wsJ3_checkIndex_8e157) := goodIn_app (goodIn_of _ (by decide +kernel)) ggJ0_checkIndex_df160_J3_checkIndex_8e157
theorem dJ0_checkIndex_df160_0 : decode cJ0_checkIndex_df160 0 = .ok (.iload_n 0, 1) := by decide +kernel
theorem dJ0_checkIndex_df160_1 : decode cJ0_checkIndex_df160 1 = .ok (.iload_n 1, 1) := by decide +kernel
theorem dJ0_checkIndex_df160_2 : decode cJ0_checkIndex_df160 2 = .ok (.getstatic 1053, 3) := by decide +kernel
theorem dJ0_checkIndex_df160_5 : decode cJ0_checkIndex_df160 5 = .ok (.invokestatic 1059, 3) := by decide +kernel
theorem dJ0_checkIndex_df160_8 : decode cJ0_checkIndex_df160 8 = .ok (.pop, 1) := by decide +kernel
theorem dJ0_checkIndex_df160_9 : decode cJ0_checkIndex_df160 9 = .ok (.return_, 1) := by decide +kernel
set_option maxRecDepth 20000 in
theorem ggJ1_charAt_3b067_J0_checkIndex_df160 : GoodIn wsJ1_charAt_3b067 wsJ0_checkIndex_df160 := goodIn_r _ [4, 5, 6, 7, 8, 9] (by decide +kernel) (by decide +kernel)
set_option maxRecDepth 20000 in
theorem gJ1_charAt_3b067_J0_checkIndex_df160 : GoodIn wsJ1_charAt_3b067 (va_wsS RJ1 9 yJ0_checkIndex_df160 wsJ0_checkIndex_df160) := goodIn_app (goodIn_of _ (by decide +kernel)) ggJ1_charAt_3b067_J0_checkIndex_df160
theorem dJ1_charAt_3b067_0 : decode cJ1_charAt_3b067 0 = .ok (.iload_n 1, 1) := by decide +kernel
theorem dJ1_charAt_3b067_1 : decode cJ1_charAt_3b067 1 = .ok (.aload_n 0, 1) := by decide +kernel
theorem dJ1_charAt_3b067_2 : decode cJ1_charAt_3b067 2 = .ok (.arraylength, 1) := by decide +kernel
theorem dJ1_charAt_3b067_3 : decode cJ1_charAt_3b067 3 = .ok (.invokestatic 9, 3) := by decide +kernel
theorem dJ1_charAt_3b067_6 : decode cJ1_charAt_3b067 6 = .ok (.aload_n 0, 1) := by decide +kernel
theorem dJ1_charAt_3b067_7 : decode cJ1_charAt_3b067 7 = .ok (.iload_n 1, 1) := by decide +kernel
theorem dJ1_charAt_3b067_8 : decode cJ1_charAt_3b067 8 = .ok (.baload, 1) := by decide +kernel
theorem dJ1_charAt_3b067_9 : decode cJ1_charAt_3b067 9 = .ok (.sipush 255, 3) := by decide +kernel
theorem dJ1_charAt_3b067_12 : decode cJ1_charAt_3b067 12 = .ok (.iand, 1) := by decide +kernel
theorem dJ1_charAt_3b067_13 : decode cJ1_charAt_3b067 13 = .ok (.i2c, 1) := by decide +kernel
theorem dJ1_charAt_3b067_14 : decode cJ1_charAt_3b067 14 = .ok (.ireturn, 1) := by decide +kernel
set_option maxRecDepth 20000 in
theorem ggJ2_getChar_3b067_J2_length_9d52b : GoodIn wsJ2_getChar_3b067 wsJ2_length_9d52b := goodIn_r _ [7] (by decide +kernel) (by decide +kernel)
set_option maxRecDepth 20000 in
theorem gJ2_getChar_3b067_J2_length_9d52b : GoodIn wsJ2_getChar_3b067 (va_wsS RJ2 48 yJ2_length_9d52b wsJ2_length_9d52b) := goodIn_app (goodIn_of _ (by decide +kernel)) ggJ2_getChar_3b067_J2_length_9d52b
theorem dJ2_getChar_3b067_0 : decode cJ2_getChar_3b067 0 = .ok (.getstatic 44, 3) := by decide +kernel
theorem dJ2_getChar_3b067_3 : decode cJ2_getChar_3b067 3 = .ok (.ifCond .ne 25, 3) := by decide +kernel
theorem dJ2_getChar_3b067_6 : decode cJ2_getChar_3b067 6 = .ok (.iload_n 1, 1) := by decide +kernel
theorem dJ2_getChar_3b067_7 : decode cJ2_getChar_3b067 7 = .ok (.ifCond .lt 11, 3) := by decide +kernel
theorem dJ2_getChar_3b067_10 : decode cJ2_getChar_3b067 10 = .ok (.iload_n 1, 1) := by decide +kernel
theorem dJ2_getChar_3b067_11 : decode cJ2_getChar_3b067 11 = .ok (.aload_n 0, 1) := by decide +kernel
theorem dJ2_getChar_3b067_12 : decode cJ2_getChar_3b067 12 = .ok (.invokestatic 48, 3) := by decide +kernel
theorem dJ2_getChar_3b067_15 : decode cJ2_getChar_3b067 15 = .ok (.if_icmp .lt 13, 3) := by decide +kernel
theorem dJ2_getChar_3b067_18 : decode cJ2_getChar_3b067 18 = .ok (.new 52, 3) := by decide +kernel
theorem dJ2_getChar_3b067_21 : decode cJ2_getChar_3b067 21 = .ok (.dup, 1) := by decide +kernel
theorem dJ2_getChar_3b067_22 : decode cJ2_getChar_3b067 22 = .ok (.ldc 54, 2) := by decide +kernel
theorem dJ2_getChar_3b067_24 : decode cJ2_getChar_3b067 24 = .ok (.invokespecial 56, 3) := by decide +kernel
theorem dJ2_getChar_3b067_27 : decode cJ2_getChar_3b067 27 = .ok (.athrow, 1) := by decide +kernel
theorem dJ2_getChar_3b067_28 : decode cJ2_getChar_3b067 28 = .ok (.iload_n 1, 1) := by decide +kernel
theorem dJ2_getChar_3b067_29 : decode cJ2_getChar_3b067 29 = .ok (.iconst 1, 1) := by decide +kernel
theorem dJ2_getChar_3b067_30 : decode cJ2_getChar_3b067 30 = .ok (.ishl, 1) := by decide +kernel
theorem dJ2_getChar_3b067_31 : decode cJ2_getChar_3b067 31 = .ok (.istore_n 1, 1) := by decide +kernel
theorem dJ2_getChar_3b067_32 : decode cJ2_getChar_3b067 32 = .ok (.aload_n 0, 1) := by decide +kernel
theorem dJ2_getChar_3b067_33 : decode cJ2_getChar_3b067 33 = .ok (.iload_n 1, 1) := by decide +kernel
theorem dJ2_getChar_3b067_34 : decode cJ2_getChar_3b067 34 = .ok (.iinc 1 1, 3) := by decide +kernel
theorem dJ2_getChar_3b067_37 : decode cJ2_getChar_3b067 37 = .ok (.baload, 1) := by decide +kernel
theorem dJ2_getChar_3b067_38 : decode cJ2_getChar_3b067 38 = .ok (.sipush 255, 3) := by decide +kernel
theorem dJ2_getChar_3b067_41 : decode cJ2_getChar_3b067 41 = .ok (.iand, 1) := by decide +kernel
theorem dJ2_getChar_3b067_42 : decode cJ2_getChar_3b067 42 = .ok (.getstatic 59, 3) := by decide +kernel
theorem dJ2_getChar_3b067_45 : decode cJ2_getChar_3b067 45 = .ok (.ishl, 1) := by decide +kernel
theorem dJ2_getChar_3b067_46 : decode cJ2_getChar_3b067 46 = .ok (.aload_n 0, 1) := by decide +kernel
theorem dJ2_getChar_3b067_47 : decode cJ2_getChar_3b067 47 = .ok (.iload_n 1, 1) := by decide +kernel
theorem dJ2_getChar_3b067_48 : decode cJ2_getChar_3b067 48 = .ok (.baload, 1) := by decide +kernel
theorem dJ2_getChar_3b067_49 : decode cJ2_getChar_3b067 49 = .ok (.sipush 255, 3) := by decide +kernel
theorem dJ2_getChar_3b067_52 : decode cJ2_getChar_3b067 52 = .ok (.iand, 1) := by decide +kernel
theorem dJ2_getChar_3b067_53 : decode cJ2_getChar_3b067 53 = .ok (.getstatic 63, 3) := by decide +kernel
theorem dJ2_getChar_3b067_56 : decode cJ2_getChar_3b067 56 = .ok (.ishl, 1) := by decide +kernel
theorem dJ2_getChar_3b067_57 : decode cJ2_getChar_3b067 57 = .ok (.ior, 1) := by decide +kernel
theorem dJ2_getChar_3b067_58 : decode cJ2_getChar_3b067 58 = .ok (.i2c, 1) := by decide +kernel
theorem dJ2_getChar_3b067_59 : decode cJ2_getChar_3b067 59 = .ok (.ireturn, 1) := by decide +kernel
theorem dJ2_length_9d52b_0 : decode cJ2_length_9d52b 0 = .ok (.aload_n 0, 1) := by decide +kernel
theorem dJ2_length_9d52b_1 : decode cJ2_length_9d52b 1 = .ok (.arraylength, 1) := by decide +kernel
theorem dJ2_length_9d52b_2 : decode cJ2_length_9d52b 2 = .ok (.iconst 1, 1) := by decide +kernel
theorem dJ2_length_9d52b_3 : decode cJ2_length_9d52b 3 = .ok (.ishr, 1) := by decide +kernel
theorem dJ2_length_9d52b_4 : decode cJ2_length_9d52b 4 = .ok (.ireturn, 1) := by decide +kernel
set_option maxRecDepth 20000 in
theorem ggJ2_charAt_3b067_J2_checkIndex_2214a : GoodIn wsJ2_charAt_3b067 wsJ2_checkIndex_2214a := goodIn_r _ [4, 5, 6, 3, 7, 8, 9, 10, 11, 12, 13, 14, 15, 16] (by decide +kernel) (by decide +kernel)
set_option maxRecDepth 20000 in
theorem gJ2_charAt_3b067_J2_checkIndex_2214a : GoodIn wsJ2_charAt_3b067 (va_wsS RJ2 67 yJ2_checkIndex_2214a wsJ2_checkIndex_2214a) := goodIn_app (goodIn_of _ (by decide +kernel)) ggJ2_charAt_3b067_J2_checkIndex_2214a
set_option maxRecDepth 20000 in
theorem ggJ2_charAt_3b067_J2_getChar_3b067 : GoodIn wsJ2_charAt_3b067 wsJ2_getChar_3b067 := goodIn_r _ [19, 20, 21, 22, 5, 6, 3, 7] (by decide +kernel) (by decide +kernel)
set_option maxRecDepth 20000 in
theorem gJ2_charAt_3b067_J2_getChar_3b067 : GoodIn wsJ2_charAt_3b067 (va_wsS RJ2 71 yJ2_getChar_3b067 wsJ2_getChar_3b067) := goodIn_app (goodIn_of _ (by decide +kernel)) ggJ2_charAt_3b067_J2_getChar_3b067
theorem dJ2_charAt_3b067_0 : decode cJ2_charAt_3b067 0 = .ok (.iload_n 1, 1) := by decide +kernel
theorem dJ2_charAt_3b067_1 : decode cJ2_charAt_3b067 1 = .ok (.aload_n 0, 1) := by decide +kernel
theorem dJ2_charAt_3b067_2 : decode cJ2_charAt_3b067 2 = .ok (.invokestatic 67, 3) := by decide +kernel
theorem dJ2_charAt_3b067_5 : decode cJ2_charAt_3b067 5 = .ok (.aload_n 0, 1) := by decide +kernel
theorem dJ2_charAt_3b067_6 : decode cJ2_charAt_3b067 6 = .ok (.iload_n 1, 1) := by decide +kernel
theorem dJ2_charAt_3b067_7 : decode cJ2_charAt_3b067 7 = .ok (.invokestatic 71, 3) := by decide +kernel
theorem dJ2_charAt_3b067_10 : decode cJ2_charAt_3b067 10 = .ok (.ireturn, 1) := by decide +kernel
set_option maxRecDepth 20000 in
theorem ggJ2_checkIndex_2214a_J2_length_9d52b : GoodIn wsJ2_checkIndex_2214a wsJ2_length_9d52b := goodIn_r _ [4] (by decide +kernel) (by decide +kernel)
set_option maxRecDepth 20000 in
theorem gJ2_checkIndex_2214a_J2_length_9d52b : GoodIn wsJ2_checkIndex_2214a (va_wsS RJ2 48 yJ2_length_9d52b wsJ2_length_9d52b) := goodIn_app (goodIn_of _ (by decide +kernel)) ggJ2_checkIndex_2214a_J2_length_9d52b
set_option maxRecDepth 20000 in
theorem ggJ2_checkIndex_2214a_J0_checkIndex_df160 : GoodIn wsJ2_checkIndex_2214a wsJ0_checkIndex_df160 := goodIn_r _ [8, 9, 10, 11, 12, 13] (by decide +kernel) (by decide +kernel)
set_option maxRecDepth 20000 in
theorem gJ2_checkIndex_2214a_J0_checkIndex_df160 : GoodIn wsJ2_checkIndex_2214a (va_wsS RJ2 414 yJ0_checkIndex_df160 wsJ0_checkIndex_df160) := goodIn_app (goodIn_of _ (by decide +kernel)) ggJ2_checkIndex_2214a_J0_checkIndex_df160
theorem dJ2_checkIndex_2214a_0 : decode cJ2_checkIndex_2214a 0 = .ok (.iload_n 0, 1) := by decide +kernel
theorem dJ2_checkIndex_2214a_1 : decode cJ2_checkIndex_2214a 1 = .ok (.aload_n 1, 1) := by decide +kernel
theorem dJ2_checkIndex_2214a_2 : decode cJ2_checkIndex_2214a 2 = .ok (.invokestatic 48, 3) := by decide +kernel
theorem dJ2_checkIndex_2214a_5 : decode cJ2_checkIndex_2214a 5 = .ok (.invokestatic 414, 3) := by decide +kernel
theorem dJ2_checkIndex_2214a_8 : decode cJ2_checkIndex_2214a 8 = .ok (.return_, 1) := by decide +kernel
theorem dJ3_checkIndex_8e157_0 : decode cJ3_checkIndex_8e157 0 = .ok (.iload_n 0, 1) := by decide +kernel
theorem dJ3_checkIndex_8e157_1 : decode cJ3_checkIndex_8e157 1 = .ok (.ifCond .lt 8, 3) := by decide +kernel
theorem dJ3_checkIndex_8e157_4 : decode cJ3_checkIndex_8e157 4 = .ok (.iload_n 0, 1) := by decide +kernel
theorem dJ3_checkIndex_8e157_5 : decode cJ3_checkIndex_8e157 5 = .ok (.iload_n 1, 1) := by decide +kernel
theorem dJ3_checkIndex_8e157_6 : decode cJ3_checkIndex_8e157 6 = .ok (.if_icmp .lt 10, 3) := by decide +kernel
theorem dJ3_checkIndex_8e157_9 : decode cJ3_checkIndex_8e157 9 = .ok (.aload_n 2, 1) := by decide +kernel
theorem dJ3_checkIndex_8e157_10 : decode cJ3_checkIndex_8e157 10 = .ok (.iload_n 0, 1) := by decide +kernel
theorem dJ3_checkIndex_8e157_11 : decode cJ3_checkIndex_8e157 11 = .ok (.iload_n 1, 1) := by decide +kernel
theorem dJ3_checkIndex_8e157_12 : decode cJ3_checkIndex_8e157 12 = .ok (.invokestatic 95, 3) := by decide +kernel
theorem dJ3_checkIndex_8e157_15 : decode cJ3_checkIndex_8e157 15 = .ok (.athrow, 1) := by decide +kernel
theorem dJ3_checkIndex_8e157_16 : decode cJ3_checkIndex_8e157 16 = .ok (.iload_n 0, 1) := by decide +kernel
theorem dJ3_checkIndex_8e157_17 : decode cJ3_checkIndex_8e157 17 = .ok (.ireturn, 1) := by decide +kernel
set_option maxRecDepth 20000 in
theorem ggL_law_X9_init : GoodIn wsL_law wsX9_init := goodIn_r _ [8, 9, 10, 11, 12, 13, 14, 15, 16, 17, 18, 19, 20, 21, 22, 23, 24, 25, 26, 27, 28, 29, 30, 31, 32, 33, 34, 35, 36, 37, 38, 39, 40, 41, 42, 43, 44, 45, 46, 47, 48, 49, 50, 51, 52, 53, 54, 55, 56, 57, 58, 59, 60, 61, 62, 63, 64, 65, 66, 67, 68, 69, 70, 71, 72, 73, 74, 75, 76, 77, 78, 79, 80, 81, 82, 83, 84, 85, 86, 87, 88, 89, 90, 91, 92, 93, 94, 95, 96, 97, 98, 99, 100, 101, 102, 103, 104, 105, 106, 107, 108, 109, 110, 111, 112, 113, 114, 115, 116, 117, 118, 119, 120, 121, 122, 123, 124, 125, 126, 127, 128, 129, 130, 131, 132, 133, 134, 135, 1054, 1055, 1056, 1057, 1058, 1059, 1060, 1016, 1017, 1018, 1019, 1020, 1021, 1022, 1023, 1024, 1025, 1026, 1027, 1061, 1062, 1063, 1064, 1065, 1066, 1067, 1068, 1069, 1070, 1071, 1072, 1073, 1074, 1075, 1076, 1077, 1078, 1079, 1080, 1081, 1082, 1083, 1084, 1085, 1086, 1087, 1088] (by decide +kernel) (by decide +kernel)
set_option maxRecDepth 20000 in
theorem gL_law_X9_init : GoodIn wsL_law (wsX9_init) := ggL_law_X9_init
set_option maxRecDepth 20000 in
theorem ggL_law_X10_init : GoodIn wsL_law wsX10_init := goodIn_r _ [138, 139, 10, 11, 140, 141, 142, 143, 144, 49, 145, 146, 147, 31, 148, 149, 150, 151, 152, 153, 154, 155, 156, 157, 1028, 1029, 1030, 1031, 1032, 1033, 1034, 1035, 1036, 1037, 1038, 1039, 1040, 1041, 1042, 1043, 1044, 1045, 1046, 1047, 1048, 1049, 1050, 1051, 1052, 1053] (by decide +kernel) (by decide +kernel)
set_option maxRecDepth 20000 in
theorem gL_law_X10_init : GoodIn wsL_law (wsX10_init) := ggL_law_X10_init
set_option maxRecDepth 20000 in
theorem ggL_law_X9_write : GoodIn wsL_law wsX9_write := goodIn_r _ [161, 162, 15, 163, 164, 165, 166, 2, 167, 168, 169, 170, 14, 171, 51, 50, 1016, 1017, 1018, 1019, 1020, 1021, 1022, 1023, 1024, 1025, 1026, 1027, 1054, 1055, 1056, 1057, 1058, 1059, 1060] (by decide +kernel) (by decide +kernel)
set_option maxRecDepth 20000 in
theorem gL_law_X9_write : GoodIn wsL_law (wsV RL 13 RX9 yX9_write wsX9_write) := goodIn_app (goodIn_of _ (by decide +kernel)) ggL_law_X9_write
set_option maxRecDepth 20000 in
theorem ggL_law_X10_write : GoodIn wsL_law wsX10_write := goodIn_r _ [175, 176, 177, 178, 179, 149, 180, 181, 5, 182, 1028, 1029, 1030, 1031, 1032, 1033, 1034, 1035, 1036, 1037, 1038, 1039, 1040, 1041, 1042, 1043, 1044, 1045, 1046, 1047, 1048, 1049, 1050, 1051, 1052, 1053] (by decide +kernel) (by decide +kernel)
set_option maxRecDepth 20000 in
theorem gL_law_X10_write : GoodIn wsL_law (wsV RL 17 RX10 yX10_write wsX10_write) := goodIn_app (goodIn_of _ (by decide +kernel)) ggL_law_X10_write
set_option maxRecDepth 20000 in
theorem ggL_law_X9_erase : GoodIn wsL_law wsX9_erase := goodIn_r _ [186, 15, 163, 1016, 1017, 1018, 1019, 1020, 1021, 1022, 1023, 1024, 1025, 1026, 1027, 1054, 1055, 1056, 1057, 1058, 1059, 1060] (by decide +kernel) (by decide +kernel)
set_option maxRecDepth 20000 in
theorem gL_law_X9_erase : GoodIn wsL_law (wsV RL 18 RX9 yX9_erase wsX9_erase) := goodIn_app (goodIn_of _ (by decide +kernel)) ggL_law_X9_erase
set_option maxRecDepth 20000 in
theorem ggL_law_X10_erase : GoodIn wsL_law wsX10_erase := goodIn_r _ [190, 178, 1028, 1029, 1030, 1031, 1032, 1033, 1034, 1035, 1036, 1037, 1038, 1039, 1040, 1041, 1042, 1043, 1044, 1045, 1046, 1047, 1048, 1049, 1050, 1051, 1052, 1053] (by decide +kernel) (by decide +kernel)
set_option maxRecDepth 20000 in
theorem gL_law_X10_erase : GoodIn wsL_law (wsV RL 22 RX10 yX10_erase wsX10_erase) := goodIn_app (goodIn_of _ (by decide +kernel)) ggL_law_X10_erase
set_option maxRecDepth 20000 in
theorem ggL_law_X9_fault : GoodIn wsL_law wsX9_fault := goodIn_r _ [194, 20, 19, 15, 195, 196, 197, 18, 198, 61, 62, 63, 199, 200, 201, 202, 64, 65, 203, 204, 205, 14, 206, 55, 52, 54, 53, 207, 208, 209, 210, 56, 211, 212, 213, 214, 215, 216, 51, 50, 217, 218, 219, 220, 221, 222, 223, 224, 225, 226, 227, 228, 229, 230, 231, 232, 233, 234, 235, 236, 237, 238, 239, 240, 241, 242, 243, 244, 245, 246, 247, 248, 249, 250, 251, 252, 253, 254, 255, 256, 257, 258, 259, 260, 261, 262, 263, 264, 265, 266, 267, 268, 269, 270, 271, 272, 273, 274, 275, 276, 277, 67, 68, 69, 70, 71, 72, 73, 74, 75, 76, 77, 78, 79, 80, 81, 278, 279, 280, 281, 282, 283, 284, 285, 286, 287, 288, 1016, 1017, 1018, 1019, 1020, 1021, 1022, 1023, 1024, 1025, 1026, 1027, 1061, 1062, 1063, 1064, 1065, 1054, 1055, 1056, 1057, 1058, 1059, 1060] (by decide +kernel) (by decide +kernel)
set_option maxRecDepth 20000 in
theorem gL_law_X9_fault : GoodIn wsL_law (wsV RL 23 RX9 yX9_fault wsX9_fault) := goodIn_app (goodIn_of _ (by decide +kernel)) ggL_law_X9_fault
set_option maxRecDepth 20000 in
theorem ggL_law_X10_fault : GoodIn wsL_law wsX10_fault := goodIn_r _ [292, 293, 294, 295, 296, 5, 297, 298, 299, 300, 144, 301, 178, 149, 302, 303, 304, 305, 306, 307, 308, 309, 310, 180, 181, 182, 311, 312, 313, 314, 315, 316, 317, 318, 319, 320, 321, 322, 323, 155, 324, 325, 326, 327, 328, 329, 330, 331, 154, 332, 333, 334, 335, 336, 337, 338, 339, 143, 146, 145, 147, 340, 341, 342, 343, 1028, 1029, 1030, 1031, 1032, 1033, 1034, 1035, 1036, 1037, 1038, 1039, 1040, 1041, 1042, 1043, 1044, 1045, 1046, 1047, 1048, 1049, 1050, 1051, 1052, 1053] (by decide +kernel) (by decide +kernel)
set_option maxRecDepth 20000 in
theorem gL_law_X10_fault : GoodIn wsL_law (wsV RL 26 RX10 yX10_fault wsX10_fault) := goodIn_app (goodIn_of _ (by decide +kernel)) ggL_law_X10_fault
set_option maxRecDepth 20000 in
theorem ggL_law_X9_net : GoodIn wsL_law wsX9_net := goodIn_r _ [347, 20, 19, 15, 164, 163, 348, 195, 196, 197, 18, 198, 61, 62, 63, 199, 200, 201, 202, 64, 65, 203, 204, 205, 14, 206, 55, 52, 54, 53, 207, 208, 209, 210, 56, 211, 212, 213, 214, 215, 216, 51, 50, 217, 218, 219, 220, 221, 222, 223, 224, 225, 226, 227, 228, 229, 230, 231, 232, 233, 234, 235, 236, 237, 238, 239, 240, 241, 242, 243, 244, 245, 246, 247, 248, 249, 250, 251, 252, 253, 254, 255, 256, 257, 258, 259, 260, 261, 262, 263, 264, 265, 266, 267, 268, 269, 270, 271, 272, 273, 274, 275, 276, 277, 67, 68, 69, 70, 71, 72, 73, 74, 75, 76, 77, 78, 79, 80, 81, 278, 279, 280, 281, 282, 283, 284, 285, 286, 287, 288, 349, 350, 351, 2, 352, 24, 29, 353, 32, 45, 354, 355, 356, 23, 357, 88, 358, 359, 360, 87, 361, 95, 96, 362, 363, 364, 94, 365, 100, 101, 102, 366, 367, 368, 369, 370, 371, 372, 373, 374, 375, 376, 377, 44, 378, 132, 131, 1016, 1017, 1018, 1019, 1020, 1021, 1022, 1023, 1024, 1025, 1026, 1027, 1054, 1055, 1056, 1057, 1058, 1059, 1060, 1061, 1062, 1063, 1064, 1065, 1067, 1068, 1069, 1066, 1084, 1085, 1086, 1087, 1088, 1079, 1080, 1081, 1082, 1083] (by decide +kernel) (by decide +kernel)
set_option maxRecDepth 20000 in
theorem gL_law_X9_net : GoodIn wsL_law (wsV RL 27 RX9 yX9_net wsX9_net) := goodIn_app (goodIn_of _ (by decide +kernel)) ggL_law_X9_net
set_option maxRecDepth 20000 in
theorem ggL_law_X10_net : GoodIn wsL_law wsX10_net := goodIn_r _ [382, 179, 141, 142, 178, 383, 148, 150, 300, 294, 295, 296, 5, 297, 298, 299, 144, 301, 293, 149, 302, 303, 304, 305, 306, 307, 308, 309, 310, 180, 181, 182, 311, 312, 313, 314, 315, 316, 317, 318, 319, 320, 321, 322, 323, 155, 324, 325, 326, 327, 328, 329, 330, 331, 154, 332, 333, 334, 335, 336, 337, 338, 339, 143, 146, 145, 147, 340, 341, 342, 343, 1028, 1029, 1030, 1031, 1032, 1033, 1034, 1035, 1036, 1037, 1038, 1039, 1040, 1041, 1042, 1043, 1044, 1045, 1046, 1047, 1048, 1049, 1050, 1051, 1052, 1053] (by decide +kernel) (by decide +kernel)
set_option maxRecDepth 20000 in
theorem gL_law_X10_net : GoodIn wsL_law (wsV RL 30 RX10 yX10_net wsX10_net) := goodIn_app (goodIn_of _ (by decide +kernel)) ggL_law_X10_net
set_option maxRecDepth 20000 in
theorem ggL_law_X9_bus : GoodIn wsL_law wsX9_bus := goodIn_r _ [387, 388, 19, 389, 390, 391, 162, 392, 393, 394, 2, 395, 396, 165, 166, 167, 397, 398, 399, 18, 400, 64, 63, 401, 402, 403, 404, 1016, 1017, 1018, 1019, 1020, 1021, 1022, 1023, 1024, 1025, 1026, 1027, 1061, 1062, 1063, 1064, 1065] (by decide +kernel) (by decide +kernel)
set_option maxRecDepth 20000 in
theorem gL_law_X9_bus : GoodIn wsL_law (wsV RL 31 RX9 yX9_bus wsX9_bus) := goodIn_app (goodIn_of _ (by decide +kernel)) ggL_law_X9_bus
set_option maxRecDepth 20000 in
theorem ggL_law_X10_bus : GoodIn wsL_law wsX10_bus := goodIn_r _ [408, 409, 145, 146, 147, 177, 410, 411, 412, 5, 413, 144, 180, 181, 182, 414, 415, 416, 417, 418, 419, 420, 421, 1028, 1029, 1030, 1031, 1032, 1033, 1034, 1035, 1036, 1037, 1038, 1039, 1040, 1041, 1042, 1043, 1044, 1045, 1046, 1047, 1048, 1049, 1050, 1051, 1052, 1053] (by decide +kernel) (by decide +kernel)
set_option maxRecDepth 20000 in
theorem gL_law_X10_bus : GoodIn wsL_law (wsV RL 35 RX10 yX10_bus wsX10_bus) := goodIn_app (goodIn_of _ (by decide +kernel)) ggL_law_X10_bus
set_option maxRecDepth 20000 in
theorem ggL_law_X9_phase : GoodIn wsL_law wsX9_phase := goodIn_r _ [425, 388, 162, 29, 24, 426, 427, 428, 429, 430, 2, 431, 165, 166, 167, 432, 433, 434, 435, 436, 437, 28, 438, 108, 110, 109, 439, 440, 441, 442, 443, 444, 445, 23, 446, 88, 447, 448, 449, 87, 450, 95, 96, 451, 452, 453, 94, 454, 100, 101, 102, 455, 363, 364, 365, 366, 367, 368, 369, 370, 371, 372, 373, 374, 1016, 1017, 1018, 1019, 1020, 1021, 1022, 1023, 1024, 1025, 1026, 1027, 1066, 1084, 1085, 1067, 1068, 1069, 1086, 1087, 1088] (by decide +kernel) (by decide +kernel)
set_option maxRecDepth 20000 in
theorem gL_law_X9_phase : GoodIn wsL_law (wsV RL 36 RX9 yX9_phase wsX9_phase) := goodIn_app (goodIn_of _ (by decide +kernel)) ggL_law_X9_phase
set_option maxRecDepth 20000 in
theorem ggL_law_X10_phase : GoodIn wsL_law wsX10_phase := goodIn_r _ [459, 409, 460, 461, 177, 462, 463, 5, 464, 465, 180, 181, 182, 466, 467, 468, 469, 383, 141, 142, 470, 471, 472, 473, 474, 475, 476, 477, 478, 479, 480, 1028, 1029, 1030, 1031, 1032, 1033, 1034, 1035, 1036, 1037, 1038, 1039, 1040, 1041, 1042, 1043, 1044, 1045, 1046, 1047, 1048, 1049, 1050, 1051, 1052, 1053] (by decide +kernel) (by decide +kernel)
set_option maxRecDepth 20000 in
theorem gL_law_X10_phase : GoodIn wsL_law (wsV RL 40 RX10 yX10_phase wsX10_phase) := goodIn_app (goodIn_of _ (by decide +kernel)) ggL_law_X10_phase
set_option maxRecDepth 20000 in
theorem ggL_law_X9_split : GoodIn wsL_law wsX9_split := goodIn_r _ [484, 36, 24, 485, 25, 426, 486, 487, 488, 35, 489, 490, 491, 448, 449, 87, 450, 95, 96, 451, 452, 453, 94, 454, 100, 101, 102, 492, 493, 494, 495, 116, 496, 497, 498, 499, 500, 501, 502, 503, 368, 369, 370, 371, 372, 373, 374, 504, 363, 364, 365, 366, 367, 505, 506, 507, 508, 509, 510, 511, 512, 513, 514, 515, 516, 517, 518, 519, 520, 521, 522, 523, 524, 2, 525, 526, 29, 527, 528, 529, 23, 530, 88, 531, 532, 533, 534, 535, 435, 436, 437, 28, 438, 108, 110, 109, 439, 440, 441, 442, 443, 444, 445, 446, 447, 536, 1016, 1017, 1018, 1019, 1020, 1021, 1022, 1023, 1024, 1025, 1026, 1027, 1066, 1084, 1085, 1086, 1087, 1088, 1070, 1071, 1072, 1073, 1074, 1067, 1068, 1069] (by decide +kernel) (by decide +kernel)
set_option maxRecDepth 20000 in
theorem gL_law_X9_split : GoodIn wsL_law (wsV RL 41 RX9 yX9_split wsX9_split) := goodIn_app (goodIn_of _ (by decide +kernel)) ggL_law_X9_split
set_option maxRecDepth 20000 in
theorem ggL_law_X10_split : GoodIn wsL_law wsX10_split := goodIn_r _ [540, 541, 542, 543, 5, 544, 545, 546, 547, 548, 549, 550, 141, 142, 551, 552, 553, 554, 555, 556, 557, 558, 559, 560, 561, 562, 563, 564, 565, 566, 567, 568, 569, 474, 475, 476, 477, 478, 479, 480, 180, 181, 182, 570, 571, 572, 573, 574, 575, 576, 577, 578, 579, 580, 581, 582, 466, 467, 468, 469, 383, 470, 471, 472, 473, 1028, 1029, 1030, 1031, 1032, 1033, 1034, 1035, 1036, 1037, 1038, 1039, 1040, 1041, 1042, 1043, 1044, 1045, 1046, 1047, 1048, 1049, 1050, 1051, 1052, 1053] (by decide +kernel) (by decide +kernel)
set_option maxRecDepth 20000 in
theorem gL_law_X10_split : GoodIn wsL_law (wsV RL 44 RX10 yX10_split wsX10_split) := goodIn_app (goodIn_of _ (by decide +kernel)) ggL_law_X10_split
set_option maxRecDepth 20000 in
theorem ggL_law_X9_join : GoodIn wsL_law wsX9_join := goodIn_r _ [586, 36, 24, 587, 25, 486, 487, 488, 35, 489, 490, 491, 448, 449, 87, 450, 95, 96, 451, 452, 453, 94, 454, 100, 101, 102, 492, 493, 494, 495, 116, 496, 497, 498, 499, 500, 501, 502, 503, 368, 369, 370, 371, 372, 373, 374, 504, 363, 364, 365, 366, 367, 505, 506, 507, 508, 509, 510, 511, 512, 522, 523, 524, 2, 525, 526, 29, 527, 528, 529, 23, 530, 88, 531, 532, 533, 534, 535, 435, 436, 437, 28, 438, 108, 110, 109, 439, 440, 441, 442, 443, 444, 445, 446, 447, 536, 1016, 1017, 1018, 1019, 1020, 1021, 1022, 1023, 1024, 1025, 1026, 1027, 1066, 1084, 1085, 1086, 1087, 1088, 1070, 1071, 1072, 1073, 1074, 1067, 1068, 1069] (by decide +kernel) (by decide +kernel)
set_option maxRecDepth 20000 in
theorem gL_law_X9_join : GoodIn wsL_law (wsV RL 45 RX9 yX9_join wsX9_join) := goodIn_app (goodIn_of _ (by decide +kernel)) ggL_law_X9_join
set_option maxRecDepth 20000 in
theorem ggL_law_X10_join : GoodIn wsL_law wsX10_join := goodIn_r _ [591, 541, 542, 543, 5, 544, 545, 546, 547, 548, 549, 550, 141, 142, 551, 552, 553, 554, 555, 556, 557, 558, 559, 560, 561, 562, 563, 564, 565, 566, 567, 568, 569, 474, 475, 476, 477, 478, 479, 480, 180, 181, 182, 570, 571, 572, 573, 574, 575, 576, 577, 578, 579, 580, 581, 582, 466, 467, 468, 469, 383, 470, 471, 472, 473, 1028, 1029, 1030, 1031, 1032, 1033, 1034, 1035, 1036, 1037, 1038, 1039, 1040, 1041, 1042, 1043, 1044, 1045, 1046, 1047, 1048, 1049, 1050, 1051, 1052, 1053] (by decide +kernel) (by decide +kernel)
set_option maxRecDepth 20000 in
theorem gL_law_X10_join : GoodIn wsL_law (wsV RL 48 RX10 yX10_join wsX10_join) := goodIn_app (goodIn_of _ (by decide +kernel)) ggL_law_X10_join
set_option maxRecDepth 20000 in
theorem ggL_law_X9_turn : GoodIn wsL_law wsX9_turn := goodIn_r _ [595, 29, 24, 435, 436, 437, 28, 438, 108, 110, 109, 439, 440, 441, 442, 443, 444, 445, 23, 446, 88, 447, 448, 449, 87, 450, 95, 96, 451, 452, 453, 94, 454, 100, 101, 102, 596, 597, 598, 599, 1016, 1017, 1018, 1019, 1020, 1021, 1022, 1023, 1024, 1025, 1026, 1027, 1067, 1068, 1069, 1066, 1084, 1085, 1086, 1087, 1088] (by decide +kernel) (by decide +kernel)
set_option maxRecDepth 20000 in
theorem gL_law_X9_turn : GoodIn wsL_law (wsV RL 49 RX9 yX9_turn wsX9_turn) := goodIn_app (goodIn_of _ (by decide +kernel)) ggL_law_X9_turn
set_option maxRecDepth 20000 in
theorem ggL_law_X10_turn : GoodIn wsL_law wsX10_turn := goodIn_r _ [603, 466, 467, 468, 5, 469, 383, 141, 142, 470, 471, 472, 473, 547, 548, 549, 550, 1028, 1029, 1030, 1031, 1032, 1033, 1034, 1035, 1036, 1037, 1038, 1039, 1040, 1041, 1042, 1043, 1044, 1045, 1046, 1047, 1048, 1049, 1050, 1051, 1052, 1053] (by decide +kernel) (by decide +kernel)
set_option maxRecDepth 20000 in
theorem gL_law_X10_turn : GoodIn wsL_law (wsV RL 52 RX10 yX10_turn wsX10_turn) := goodIn_app (goodIn_of _ (by decide +kernel)) ggL_law_X10_turn
set_option maxRecDepth 20000 in
theorem ggL_law_X9_load : GoodIn wsL_law wsX9_load := goodIn_r _ [607, 29, 24, 426, 427, 40, 608, 428, 609, 610, 611, 2, 612, 388, 162, 19, 164, 392, 393, 394, 395, 396, 165, 166, 167, 613, 614, 615, 616, 617, 618, 619, 620, 621, 39, 622, 623, 127, 624, 398, 399, 18, 400, 64, 63, 625, 626, 627, 628, 124, 125, 126, 435, 436, 437, 28, 438, 108, 110, 109, 439, 440, 441, 442, 443, 444, 445, 23, 446, 88, 447, 448, 449, 87, 450, 95, 96, 451, 452, 453, 94, 454, 100, 101, 102, 629, 630, 631, 632, 455, 363, 364, 365, 366, 367, 368, 369, 370, 371, 372, 373, 374, 633, 634, 635, 636, 1016, 1017, 1018, 1019, 1020, 1021, 1022, 1023, 1024, 1025, 1026, 1027, 1066, 1084, 1085, 1075, 1076, 1077, 1078, 1061, 1062, 1063, 1064, 1065, 1067, 1068, 1069, 1086, 1087, 1088] (by decide +kernel) (by decide +kernel)
set_option maxRecDepth 20000 in
theorem gL_law_X9_load : GoodIn wsL_law (wsV RL 53 RX9 yX9_load wsX9_load) := goodIn_app (goodIn_of _ (by decide +kernel)) ggL_law_X9_load
set_option maxRecDepth 20000 in
theorem ggL_law_X10_load : GoodIn wsL_law wsX10_load := goodIn_r _ [640, 409, 177, 641, 179, 157, 410, 411, 412, 5, 413, 144, 180, 181, 182, 642, 643, 644, 578, 645, 646, 647, 648, 649, 156, 143, 414, 415, 416, 417, 146, 145, 466, 467, 468, 469, 383, 141, 142, 470, 471, 472, 473, 650, 651, 652, 653, 474, 475, 476, 477, 478, 479, 480, 1028, 1029, 1030, 1031, 1032, 1033, 1034, 1035, 1036, 1037, 1038, 1039, 1040, 1041, 1042, 1043, 1044, 1045, 1046, 1047, 1048, 1049, 1050, 1051, 1052, 1053] (by decide +kernel) (by decide +kernel)
set_option maxRecDepth 20000 in
theorem gL_law_X10_load : GoodIn wsL_law (wsV RL 57 RX10 yX10_load wsX10_load) := goodIn_app (goodIn_of _ (by decide +kernel)) ggL_law_X10_load
set_option maxRecDepth 20000 in
theorem ggL_law_X9_undo : GoodIn wsL_law wsX9_undo := goodIn_r _ [657, 29, 24, 353, 164, 658, 659, 660, 28, 661, 109, 110, 108, 443, 444, 445, 23, 446, 88, 447, 448, 449, 87, 450, 95, 96, 451, 452, 453, 94, 454, 100, 101, 102, 1016, 1017, 1018, 1019, 1020, 1021, 1022, 1023, 1024, 1025, 1026, 1027, 1067, 1068, 1069, 1066, 1084, 1085, 1086, 1087, 1088] (by decide +kernel) (by decide +kernel)
set_option maxRecDepth 20000 in
theorem gL_law_X9_undo : GoodIn wsL_law (wsV RL 58 RX9 yX9_undo wsX9_undo) := goodIn_app (goodIn_of _ (by decide +kernel)) ggL_law_X9_undo
set_option maxRecDepth 20000 in
theorem ggL_law_X10_undo : GoodIn wsL_law wsX10_undo := goodIn_r _ [665, 383, 179, 470, 471, 472, 5, 473, 141, 142, 1028, 1029, 1030, 1031, 1032, 1033, 1034, 1035, 1036, 1037, 1038, 1039, 1040, 1041, 1042, 1043, 1044, 1045, 1046, 1047, 1048, 1049, 1050, 1051, 1052, 1053] (by decide +kernel) (by decide +kernel)
set_option maxRecDepth 20000 in
theorem gL_law_X10_undo : GoodIn wsL_law (wsV RL 61 RX10 yX10_undo wsX10_undo) := goodIn_app (goodIn_of _ (by decide +kernel)) ggL_law_X10_undo
set_option maxRecDepth 20000 in
theorem ggL_law_X9_keep : GoodIn wsL_law wsX9_keep := goodIn_r _ [669, 162, 30, 24, 32, 165, 166, 2, 167, 536, 444, 445, 23, 446, 88, 447, 448, 449, 87, 450, 95, 96, 451, 452, 453, 94, 454, 100, 101, 102, 1016, 1017, 1018, 1019, 1020, 1021, 1022, 1023, 1024, 1025, 1026, 1027, 1066, 1084, 1085, 1086, 1087, 1088] (by decide +kernel) (by decide +kernel)
set_option maxRecDepth 20000 in
theorem gL_law_X9_keep : GoodIn wsL_law (wsV RL 62 RX9 yX9_keep wsX9_keep) := goodIn_app (goodIn_of _ (by decide +kernel)) ggL_law_X9_keep
set_option maxRecDepth 20000 in
theorem ggL_law_X10_keep : GoodIn wsL_law wsX10_keep := goodIn_r _ [673, 177, 148, 180, 181, 5, 182, 470, 471, 472, 473, 141, 142, 1028, 1029, 1030, 1031, 1032, 1033, 1034, 1035, 1036, 1037, 1038, 1039, 1040, 1041, 1042, 1043, 1044, 1045, 1046, 1047, 1048, 1049, 1050, 1051, 1052, 1053] (by decide +kernel) (by decide +kernel)
set_option maxRecDepth 20000 in
theorem gL_law_X10_keep : GoodIn wsL_law (wsV RL 65 RX10 yX10_keep wsX10_keep) := goodIn_app (goodIn_of _ (by decide +kernel)) ggL_law_X10_keep
set_option maxRecDepth 20000 in
theorem ggL_law_X9_back : GoodIn wsL_law wsX9_back := goodIn_r _ [677, 162, 32, 164, 24, 30, 29, 353, 165, 166, 2, 167, 536, 444, 445, 23, 446, 88, 447, 448, 449, 87, 450, 95, 96, 451, 452, 453, 94, 454, 100, 101, 102, 1016, 1017, 1018, 1019, 1020, 1021, 1022, 1023, 1024, 1025, 1026, 1027, 1067, 1068, 1069, 1066, 1084, 1085, 1086, 1087, 1088] (by decide +kernel) (by decide +kernel)
set_option maxRecDepth 20000 in
theorem gL_law_X9_back : GoodIn wsL_law (wsV RL 66 RX9 yX9_back wsX9_back) := goodIn_app (goodIn_of _ (by decide +kernel)) ggL_law_X9_back
set_option maxRecDepth 20000 in
theorem ggL_law_X10_back : GoodIn wsL_law wsX10_back := goodIn_r _ [681, 177, 148, 179, 383, 180, 181, 5, 182, 470, 471, 472, 473, 141, 142, 1028, 1029, 1030, 1031, 1032, 1033, 1034, 1035, 1036, 1037, 1038, 1039, 1040, 1041, 1042, 1043, 1044, 1045, 1046, 1047, 1048, 1049, 1050, 1051, 1052, 1053] (by decide +kernel) (by decide +kernel)
set_option maxRecDepth 20000 in
theorem gL_law_X10_back : GoodIn wsL_law (wsV RL 69 RX10 yX10_back wsX10_back) := goodIn_app (goodIn_of _ (by decide +kernel)) ggL_law_X10_back
set_option maxRecDepth 20000 in
theorem ggL_law_X9_told : GoodIn wsL_law wsX9_told := goodIn_r _ [685, 686, 687, 24, 426, 36, 429, 430, 2, 431, 165, 166, 167, 688, 689, 690, 35, 691, 119, 692, 693, 694, 695, 696, 118, 697, 698, 452, 453, 94, 454, 100, 101, 102, 699, 700, 701, 702, 371, 372, 373, 374, 504, 363, 364, 365, 366, 367, 368, 369, 370, 703, 501, 502, 503, 704, 705, 706, 707, 708, 709, 710, 711, 87, 712, 95, 96, 713, 1016, 1017, 1018, 1019, 1020, 1021, 1022, 1023, 1024, 1025, 1026, 1027, 1066, 1070, 1071, 1072, 1073, 1074, 1084, 1085, 1086, 1087, 1088] (by decide +kernel) (by decide +kernel)
set_option maxRecDepth 20000 in
theorem gL_law_X9_told : GoodIn wsL_law (wsV RL 70 RX9 yX9_told wsX9_told) := goodIn_app (goodIn_of _ (by decide +kernel)) ggL_law_X9_told
set_option maxRecDepth 20000 in
theorem ggL_law_X10_told : GoodIn wsL_law wsX10_told := goodIn_r _ [717, 718, 465, 719, 545, 720, 462, 463, 5, 464, 180, 181, 182, 721, 722, 723, 724, 141, 142, 725, 726, 727, 728, 559, 579, 580, 581, 582, 564, 565, 566, 567, 568, 569, 474, 475, 476, 477, 478, 479, 480, 560, 561, 562, 563, 1028, 1029, 1030, 1031, 1032, 1033, 1034, 1035, 1036, 1037, 1038, 1039, 1040, 1041, 1042, 1043, 1044, 1045, 1046, 1047, 1048, 1049, 1050, 1051, 1052, 1053] (by decide +kernel) (by decide +kernel)
set_option maxRecDepth 20000 in
theorem gL_law_X10_told : GoodIn wsL_law (wsV RL 74 RX10 yX10_told wsX10_told) := goodIn_app (goodIn_of _ (by decide +kernel)) ggL_law_X10_told
set_option maxRecDepth 20000 in
theorem ggL_law_X9_fold : GoodIn wsL_law wsX9_fold := goodIn_r _ [732, 687, 36, 24, 733, 165, 166, 2, 167, 734, 735, 736, 35, 737, 115, 490, 738, 359, 360, 87, 361, 95, 96, 362, 363, 364, 94, 365, 100, 101, 102, 366, 367, 368, 369, 370, 371, 372, 373, 374, 509, 510, 511, 512, 500, 501, 502, 503, 504, 496, 497, 498, 499, 505, 506, 507, 508, 739, 740, 741, 742, 119, 120, 743, 696, 692, 693, 694, 695, 118, 697, 698, 452, 453, 454, 699, 700, 701, 702, 703, 744, 745, 746, 747, 748, 491, 448, 449, 450, 451, 749, 532, 533, 534, 535, 709, 710, 711, 712, 713, 705, 706, 707, 708, 1016, 1017, 1018, 1019, 1020, 1021, 1022, 1023, 1024, 1025, 1026, 1027, 1070, 1071, 1072, 1073, 1074, 1066, 1084, 1085, 1086, 1087, 1088] (by decide +kernel) (by decide +kernel)
set_option maxRecDepth 20000 in
theorem gL_law_X9_fold : GoodIn wsL_law (wsV RL 75 RX9 yX9_fold wsX9_fold) := goodIn_app (goodIn_of _ (by decide +kernel)) ggL_law_X9_fold
set_option maxRecDepth 20000 in
theorem ggL_law_X10_fold : GoodIn wsL_law wsX10_fold := goodIn_r _ [753, 578, 719, 545, 720, 180, 181, 5, 182, 754, 755, 756, 757, 141, 142, 758, 759, 760, 761, 559, 570, 571, 572, 573, 560, 561, 562, 563, 564, 565, 566, 567, 568, 569, 474, 475, 476, 477, 478, 479, 480, 555, 556, 557, 558, 725, 726, 727, 728, 579, 580, 581, 582, 762, 763, 764, 765, 547, 548, 549, 550, 721, 722, 723, 724, 1028, 1029, 1030, 1031, 1032, 1033, 1034, 1035, 1036, 1037, 1038, 1039, 1040, 1041, 1042, 1043, 1044, 1045, 1046, 1047, 1048, 1049, 1050, 1051, 1052, 1053] (by decide +kernel) (by decide +kernel)
set_option maxRecDepth 20000 in
theorem gL_law_X10_fold : GoodIn wsL_law (wsV RL 78 RX10 yX10_fold wsX10_fold) := goodIn_app (goodIn_of _ (by decide +kernel)) ggL_law_X10_fold
set_option maxRecDepth 20000 in
theorem ggL_law_X9_most : GoodIn wsL_law wsX9_most := goodIn_r _ [769, 36, 24, 526, 162, 770, 771, 772, 35, 773, 490, 119, 743, 120, 774, 692, 693, 694, 695, 696, 118, 697, 698, 452, 453, 94, 454, 100, 101, 102, 699, 700, 701, 702, 371, 372, 373, 374, 504, 363, 364, 365, 366, 367, 368, 369, 370, 703, 501, 502, 503, 745, 746, 747, 748, 775, 776, 777, 778, 779, 780, 781, 782, 783, 2, 784, 734, 735, 736, 737, 115, 738, 359, 360, 87, 361, 95, 96, 362, 509, 510, 511, 512, 500, 496, 497, 498, 499, 505, 506, 507, 508, 739, 740, 741, 742, 744, 491, 448, 449, 450, 451, 749, 532, 533, 534, 535, 785, 786, 787, 788, 789, 790, 1016, 1017, 1018, 1019, 1020, 1021, 1022, 1023, 1024, 1025, 1026, 1027, 1066, 1070, 1071, 1072, 1073, 1074, 1086, 1087, 1088, 1084, 1085] (by decide +kernel) (by decide +kernel)
set_option maxRecDepth 20000 in
theorem gL_law_X9_most : GoodIn wsL_law (wsV RL 79 RX9 yX9_most wsX9_most) := goodIn_app (goodIn_of _ (by decide +kernel)) ggL_law_X9_most
set_option maxRecDepth 20000 in
theorem ggL_law_X10_most : GoodIn wsL_law wsX10_most := goodIn_r _ [794, 465, 177, 545, 546, 141, 180, 181, 5, 182, 547, 548, 549, 550, 142, 570, 571, 572, 573, 560, 561, 562, 563, 564, 565, 566, 567, 568, 569, 474, 475, 476, 477, 478, 479, 480, 725, 726, 727, 728, 559, 579, 580, 581, 582, 762, 763, 764, 765, 1028, 1029, 1030, 1031, 1032, 1033, 1034, 1035, 1036, 1037, 1038, 1039, 1040, 1041, 1042, 1043, 1044, 1045, 1046, 1047, 1048, 1049, 1050, 1051, 1052, 1053] (by decide +kernel) (by decide +kernel)
set_option maxRecDepth 20000 in
theorem gL_law_X10_most : GoodIn wsL_law (wsV RL 82 RX10 yX10_most wsX10_most) := goodIn_app (goodIn_of _ (by decide +kernel)) ggL_law_X10_most
set_option maxRecDepth 20000 in
theorem ggL_law_X9_current : GoodIn wsL_law wsX9_current := goodIn_r _ [798, 686, 40, 429, 430, 2, 431, 165, 166, 167, 609, 610, 611, 612, 388, 162, 19, 164, 392, 393, 394, 395, 396, 613, 614, 615, 616, 617, 618, 619, 620, 621, 39, 622, 623, 127, 624, 398, 399, 18, 400, 64, 63, 625, 626, 627, 628, 124, 125, 126, 799, 800, 801, 802, 803, 804, 805, 806, 807, 630, 631, 632, 808, 634, 635, 636, 809, 810, 811, 812, 813, 369, 94, 370, 1016, 1017, 1018, 1019, 1020, 1021, 1022, 1023, 1024, 1025, 1026, 1027, 1061, 1062, 1063, 1064, 1065, 1075, 1076, 1077, 1078] (by decide +kernel) (by decide +kernel)
set_option maxRecDepth 20000 in
theorem gL_law_X9_current : GoodIn wsL_law (wsV RL 83 RX9 yX9_current wsX9_current) := goodIn_app (goodIn_of _ (by decide +kernel)) ggL_law_X9_current
set_option maxRecDepth 20000 in
theorem ggL_law_X10_current : GoodIn wsL_law wsX10_current := goodIn_r _ [817, 718, 465, 719, 641, 818, 410, 411, 412, 5, 413, 144, 180, 181, 182, 462, 463, 464, 642, 643, 644, 578, 645, 646, 647, 648, 649, 156, 143, 414, 415, 416, 417, 146, 145, 650, 651, 652, 653, 157, 819, 820, 821, 822, 823, 824, 825, 826, 474, 475, 476, 477, 141, 142, 478, 479, 480, 721, 722, 723, 724, 1028, 1029, 1030, 1031, 1032, 1033, 1034, 1035, 1036, 1037, 1038, 1039, 1040, 1041, 1042, 1043, 1044, 1045, 1046, 1047, 1048, 1049, 1050, 1051, 1052, 1053] (by decide +kernel) (by decide +kernel)
set_option maxRecDepth 20000 in
theorem gL_law_X10_current : GoodIn wsL_law (wsV RL 87 RX10 yX10_current wsX10_current) := goodIn_app (goodIn_of _ (by decide +kernel)) ggL_law_X10_current
set_option maxRecDepth 20000 in
theorem ggL_law_X9_voltage : GoodIn wsL_law wsX9_voltage := goodIn_r _ [830, 686, 41, 19, 40, 392, 393, 394, 2, 395, 396, 165, 166, 167, 429, 430, 431, 609, 610, 611, 612, 388, 162, 164, 613, 614, 615, 616, 617, 618, 619, 620, 621, 39, 622, 623, 127, 624, 398, 399, 18, 400, 64, 63, 625, 626, 627, 628, 124, 125, 126, 831, 832, 833, 834, 835, 836, 837, 838, 799, 800, 801, 802, 803, 804, 805, 806, 807, 630, 631, 632, 808, 634, 635, 636, 809, 810, 811, 812, 813, 369, 94, 370, 1016, 1017, 1018, 1019, 1020, 1021, 1022, 1023, 1024, 1025, 1026, 1027, 1061, 1062, 1063, 1064, 1065, 1075, 1076, 1077, 1078] (by decide +kernel) (by decide +kernel)
set_option maxRecDepth 20000 in
theorem gL_law_X9_voltage : GoodIn wsL_law (wsV RL 88 RX9 yX9_voltage wsX9_voltage) := goodIn_app (goodIn_of _ (by decide +kernel)) ggL_law_X9_voltage
set_option maxRecDepth 20000 in
theorem ggL_law_X10_voltage : GoodIn wsL_law wsX10_voltage := goodIn_r _ [842, 718, 465, 719, 641, 818, 410, 411, 412, 5, 413, 144, 180, 181, 182, 462, 463, 464, 642, 643, 644, 578, 645, 646, 647, 648, 649, 156, 143, 414, 415, 416, 417, 146, 145, 843, 844, 845, 846, 847, 848, 849, 850, 650, 651, 652, 653, 157, 819, 820, 821, 822, 823, 824, 825, 826, 474, 475, 476, 477, 141, 142, 478, 479, 480, 721, 722, 723, 724, 1028, 1029, 1030, 1031, 1032, 1033, 1034, 1035, 1036, 1037, 1038, 1039, 1040, 1041, 1042, 1043, 1044, 1045, 1046, 1047, 1048, 1049, 1050, 1051, 1052, 1053] (by decide +kernel) (by decide +kernel)
set_option maxRecDepth 20000 in
theorem gL_law_X10_voltage : GoodIn wsL_law (wsV RL 92 RX10 yX10_voltage wsX10_voltage) := goodIn_app (goodIn_of _ (by decide +kernel)) ggL_law_X10_voltage
set_option maxRecDepth 20000 in
theorem ggL_law_X9_sag : GoodIn wsL_law wsX9_sag := goodIn_r _ [854, 19, 396, 41, 40, 855, 165, 166, 2, 167, 609, 610, 611, 612, 388, 162, 164, 392, 393, 394, 395, 613, 614, 615, 616, 617, 618, 619, 620, 621, 39, 622, 623, 127, 624, 398, 399, 18, 400, 64, 63, 625, 626, 627, 628, 124, 125, 126, 831, 832, 833, 834, 835, 836, 837, 838, 856, 857, 858, 859, 860, 861, 862, 863, 864, 865, 866, 441, 867, 803, 804, 805, 806, 807, 630, 631, 632, 808, 634, 635, 636, 1016, 1017, 1018, 1019, 1020, 1021, 1022, 1023, 1024, 1025, 1026, 1027, 1061, 1062, 1063, 1064, 1065, 1075, 1076, 1077, 1078] (by decide +kernel) (by decide +kernel)
set_option maxRecDepth 20000 in
theorem gL_law_X9_sag : GoodIn wsL_law (wsV RL 93 RX9 yX9_sag wsX9_sag) := goodIn_app (goodIn_of _ (by decide +kernel)) ggL_law_X9_sag
set_option maxRecDepth 20000 in
theorem ggL_law_X10_sag : GoodIn wsL_law wsX10_sag := goodIn_r _ [871, 409, 872, 177, 144, 143, 641, 873, 179, 410, 411, 412, 5, 413, 180, 181, 182, 642, 643, 644, 578, 645, 646, 647, 648, 649, 156, 414, 415, 416, 417, 146, 145, 843, 844, 845, 846, 847, 848, 849, 850, 650, 651, 652, 653, 157, 823, 824, 825, 826, 1028, 1029, 1030, 1031, 1032, 1033, 1034, 1035, 1036, 1037, 1038, 1039, 1040, 1041, 1042, 1043, 1044, 1045, 1046, 1047, 1048, 1049, 1050, 1051, 1052, 1053] (by decide +kernel) (by decide +kernel)
set_option maxRecDepth 20000 in
theorem gL_law_X10_sag : GoodIn wsL_law (wsV RL 97 RX10 yX10_sag wsX10_sag) := goodIn_app (goodIn_of _ (by decide +kernel)) ggL_law_X10_sag
set_option maxRecDepth 20000 in
theorem ggL_law_X9_trips : GoodIn wsL_law wsX9_trips := goodIn_r _ [877, 19, 391, 40, 389, 609, 610, 611, 2, 612, 388, 162, 164, 392, 393, 394, 395, 396, 165, 166, 167, 613, 614, 615, 616, 617, 618, 619, 620, 621, 39, 622, 623, 127, 624, 398, 399, 18, 400, 64, 63, 625, 626, 627, 628, 124, 125, 126, 878, 879, 880, 881, 882, 883, 884, 885, 886, 887, 441, 888, 803, 804, 805, 806, 807, 630, 631, 632, 808, 634, 635, 636, 1016, 1017, 1018, 1019, 1020, 1021, 1022, 1023, 1024, 1025, 1026, 1027, 1061, 1062, 1063, 1064, 1065, 1075, 1076, 1077, 1078] (by decide +kernel) (by decide +kernel)
set_option maxRecDepth 20000 in
theorem gL_law_X9_trips : GoodIn wsL_law (wsV RL 98 RX9 yX9_trips wsX9_trips) := goodIn_app (goodIn_of _ (by decide +kernel)) ggL_law_X9_trips
set_option maxRecDepth 20000 in
theorem ggL_law_X10_trips : GoodIn wsL_law wsX10_trips := goodIn_r _ [892, 409, 177, 147, 641, 145, 179, 410, 411, 412, 5, 413, 144, 180, 181, 182, 642, 643, 644, 578, 645, 646, 647, 648, 649, 156, 143, 414, 415, 416, 417, 146, 650, 651, 652, 653, 157, 893, 894, 895, 896, 823, 824, 825, 826, 1028, 1029, 1030, 1031, 1032, 1033, 1034, 1035, 1036, 1037, 1038, 1039, 1040, 1041, 1042, 1043, 1044, 1045, 1046, 1047, 1048, 1049, 1050, 1051, 1052, 1053] (by decide +kernel) (by decide +kernel)
set_option maxRecDepth 20000 in
theorem gL_law_X10_trips : GoodIn wsL_law (wsV RL 101 RX10 yX10_trips wsX10_trips) := goodIn_app (goodIn_of _ (by decide +kernel)) ggL_law_X10_trips
set_option maxRecDepth 20000 in
theorem ggL_law_X9_worst : GoodIn wsL_law wsX9_worst := goodIn_r _ [900, 162, 19, 396, 40, 608, 613, 614, 2, 615, 165, 166, 167, 616, 617, 618, 619, 620, 621, 39, 622, 623, 127, 624, 398, 399, 18, 400, 64, 63, 625, 626, 627, 628, 124, 125, 126, 901, 883, 884, 885, 886, 887, 441, 888, 803, 804, 805, 806, 807, 630, 631, 632, 808, 634, 635, 636, 1016, 1017, 1018, 1019, 1020, 1021, 1022, 1023, 1024, 1025, 1026, 1027, 1061, 1062, 1063, 1064, 1065, 1075, 1076, 1077, 1078] (by decide +kernel) (by decide +kernel)
set_option maxRecDepth 20000 in
theorem gL_law_X9_worst : GoodIn wsL_law (wsV RL 102 RX9 yX9_worst wsX9_worst) := goodIn_app (goodIn_of _ (by decide +kernel)) ggL_law_X9_worst
set_option maxRecDepth 20000 in
theorem ggL_law_X10_worst : GoodIn wsL_law wsX10_worst := goodIn_r _ [905, 177, 144, 641, 642, 643, 5, 644, 578, 645, 180, 181, 182, 646, 647, 648, 649, 156, 143, 414, 415, 416, 417, 146, 145, 650, 651, 652, 653, 157, 893, 894, 895, 896, 823, 824, 825, 826, 1028, 1029, 1030, 1031, 1032, 1033, 1034, 1035, 1036, 1037, 1038, 1039, 1040, 1041, 1042, 1043, 1044, 1045, 1046, 1047, 1048, 1049, 1050, 1051, 1052, 1053] (by decide +kernel) (by decide +kernel)
set_option maxRecDepth 20000 in
theorem gL_law_X10_worst : GoodIn wsL_law (wsV RL 105 RX10 yX10_worst wsX10_worst) := goodIn_app (goodIn_of _ (by decide +kernel)) ggL_law_X10_worst
set_option maxRecDepth 20000 in
theorem ggL_law_X9_match : GoodIn wsL_law wsX9_match := goodIn_r _ [909, 162, 19, 396, 40, 24, 165, 166, 2, 167, 619, 620, 621, 39, 622, 623, 127, 624, 398, 399, 18, 400, 64, 63, 625, 626, 627, 628, 124, 125, 126, 910, 911, 912, 913, 914, 915, 916, 807, 630, 631, 632, 917, 918, 919, 920, 921, 922, 808, 634, 635, 636, 1016, 1017, 1018, 1019, 1020, 1021, 1022, 1023, 1024, 1025, 1026, 1027, 1061, 1062, 1063, 1064, 1065, 1075, 1076, 1077, 1078, 1066, 1084, 1085, 1086, 1087, 1088] (by decide +kernel) (by decide +kernel)
set_option maxRecDepth 20000 in
theorem gL_law_X9_match : GoodIn wsL_law (wsV RL 106 RX9 yX9_match wsX9_match) := goodIn_app (goodIn_of _ (by decide +kernel)) ggL_law_X9_match
set_option maxRecDepth 20000 in
theorem ggL_law_X10_match : GoodIn wsL_law wsX10_match := goodIn_r _ [926, 177, 144, 180, 181, 5, 182, 646, 647, 648, 649, 578, 156, 143, 641, 414, 415, 416, 417, 146, 145, 650, 651, 652, 653, 157, 927, 928, 929, 930, 141, 142, 474, 475, 476, 477, 478, 479, 480, 1028, 1029, 1030, 1031, 1032, 1033, 1034, 1035, 1036, 1037, 1038, 1039, 1040, 1041, 1042, 1043, 1044, 1045, 1046, 1047, 1048, 1049, 1050, 1051, 1052, 1053] (by decide +kernel) (by decide +kernel)
set_option maxRecDepth 20000 in
theorem gL_law_X10_match : GoodIn wsL_law (wsV RL 109 RX10 yX10_match wsX10_match) := goodIn_app (goodIn_of _ (by decide +kernel)) ggL_law_X10_match
set_option maxRecDepth 20000 in
theorem ggL_law_X9_store : GoodIn wsL_law wsX9_store := goodIn_r _ [934, 388, 45, 935, 936, 937, 938, 2, 939, 165, 166, 167, 1016, 1017, 1018, 1019, 1020, 1021, 1022, 1023, 1024, 1025, 1026, 1027, 1079, 1080, 1081, 1082, 1083] (by decide +kernel) (by decide +kernel)
set_option maxRecDepth 20000 in
theorem gL_law_X9_store : GoodIn wsL_law (wsV RL 110 RX9 yX9_store wsX9_store) := goodIn_app (goodIn_of _ (by decide +kernel)) ggL_law_X9_store
set_option maxRecDepth 20000 in
theorem ggL_law_X10_store : GoodIn wsL_law wsX10_store := goodIn_r _ [943, 409, 150, 944, 945, 5, 946, 465, 180, 181, 182, 1028, 1029, 1030, 1031, 1032, 1033, 1034, 1035, 1036, 1037, 1038, 1039, 1040, 1041, 1042, 1043, 1044, 1045, 1046, 1047, 1048, 1049, 1050, 1051, 1052, 1053] (by decide +kernel) (by decide +kernel)
set_option maxRecDepth 20000 in
theorem gL_law_X10_store : GoodIn wsL_law (wsV RL 113 RX10 yX10_store wsX10_store) := goodIn_app (goodIn_of _ (by decide +kernel)) ggL_law_X10_store
set_option maxRecDepth 20000 in
theorem ggL_law_X9_put : GoodIn wsL_law wsX9_put := goodIn_r _ [950, 388, 162, 45, 937, 938, 2, 939, 165, 166, 167, 432, 433, 434, 951, 952, 953, 44, 954, 131, 955, 132, 956, 133, 134, 135, 1016, 1017, 1018, 1019, 1020, 1021, 1022, 1023, 1024, 1025, 1026, 1027, 1079, 1080, 1081, 1082, 1083] (by decide +kernel) (by decide +kernel)
set_option maxRecDepth 20000 in
theorem gL_law_X9_put : GoodIn wsL_law (wsV RL 114 RX9 yX9_put wsX9_put) := goodIn_app (goodIn_of _ (by decide +kernel)) ggL_law_X9_put
set_option maxRecDepth 20000 in
theorem ggL_law_X10_put : GoodIn wsL_law wsX10_put := goodIn_r _ [960, 409, 460, 461, 177, 150, 961, 962, 151, 152, 153, 944, 945, 5, 946, 465, 180, 181, 182, 1028, 1029, 1030, 1031, 1032, 1033, 1034, 1035, 1036, 1037, 1038, 1039, 1040, 1041, 1042, 1043, 1044, 1045, 1046, 1047, 1048, 1049, 1050, 1051, 1052, 1053] (by decide +kernel) (by decide +kernel)
set_option maxRecDepth 20000 in
theorem gL_law_X10_put : GoodIn wsL_law (wsV RL 117 RX10 yX10_put wsX10_put) := goodIn_app (goodIn_of _ (by decide +kernel)) ggL_law_X10_put
set_option maxRecDepth 20000 in
theorem ggL_law_X9_take : GoodIn wsL_law wsX9_take := goodIn_r _ [966, 388, 162, 45, 937, 938, 2, 939, 165, 166, 167, 967, 968, 969, 44, 970, 131, 955, 132, 971, 135, 972, 133, 134, 1016, 1017, 1018, 1019, 1020, 1021, 1022, 1023, 1024, 1025, 1026, 1027, 1079, 1080, 1081, 1082, 1083] (by decide +kernel) (by decide +kernel)
set_option maxRecDepth 20000 in
theorem gL_law_X9_take : GoodIn wsL_law (wsV RL 118 RX9 yX9_take wsX9_take) := goodIn_app (goodIn_of _ (by decide +kernel)) ggL_law_X9_take
set_option maxRecDepth 20000 in
theorem ggL_law_X10_take : GoodIn wsL_law wsX10_take := goodIn_r _ [976, 409, 177, 150, 961, 977, 151, 978, 152, 153, 944, 945, 5, 946, 465, 180, 181, 182, 1028, 1029, 1030, 1031, 1032, 1033, 1034, 1035, 1036, 1037, 1038, 1039, 1040, 1041, 1042, 1043, 1044, 1045, 1046, 1047, 1048, 1049, 1050, 1051, 1052, 1053] (by decide +kernel) (by decide +kernel)
set_option maxRecDepth 20000 in
theorem gL_law_X10_take : GoodIn wsL_law (wsV RL 121 RX10 yX10_take wsX10_take) := goodIn_app (goodIn_of _ (by decide +kernel)) ggL_law_X10_take
set_option maxRecDepth 20000 in
theorem ggL_law_X9_sum : GoodIn wsL_law wsX9_sum := goodIn_r _ [982, 388, 162, 45, 937, 938, 2, 939, 165, 166, 167, 983, 984, 985, 44, 986, 131, 955, 132, 135, 133, 134, 1016, 1017, 1018, 1019, 1020, 1021, 1022, 1023, 1024, 1025, 1026, 1027, 1079, 1080, 1081, 1082, 1083] (by decide +kernel) (by decide +kernel)
set_option maxRecDepth 20000 in
theorem gL_law_X9_sum : GoodIn wsL_law (wsV RL 122 RX9 yX9_sum wsX9_sum) := goodIn_app (goodIn_of _ (by decide +kernel)) ggL_law_X9_sum
set_option maxRecDepth 20000 in
theorem ggL_law_X10_sum : GoodIn wsL_law wsX10_sum := goodIn_r _ [990, 409, 465, 177, 150, 961, 152, 153, 151, 944, 945, 5, 946, 180, 181, 182, 1028, 1029, 1030, 1031, 1032, 1033, 1034, 1035, 1036, 1037, 1038, 1039, 1040, 1041, 1042, 1043, 1044, 1045, 1046, 1047, 1048, 1049, 1050, 1051, 1052, 1053] (by decide +kernel) (by decide +kernel)
set_option maxRecDepth 20000 in
theorem gL_law_X10_sum : GoodIn wsL_law (wsV RL 125 RX10 yX10_sum wsX10_sum) := goodIn_app (goodIn_of _ (by decide +kernel)) ggL_law_X10_sum
set_option maxRecDepth 20000 in
theorem ggL_law_X9_drop : GoodIn wsL_law wsX9_drop := goodIn_r _ [994, 388, 45, 935, 995, 937, 938, 2, 939, 165, 166, 167, 375, 376, 377, 44, 378, 132, 131, 1016, 1017, 1018, 1019, 1020, 1021, 1022, 1023, 1024, 1025, 1026, 1027, 1079, 1080, 1081, 1082, 1083] (by decide +kernel) (by decide +kernel)
set_option maxRecDepth 20000 in
theorem gL_law_X9_drop : GoodIn wsL_law (wsV RL 126 RX9 yX9_drop wsX9_drop) := goodIn_app (goodIn_of _ (by decide +kernel)) ggL_law_X9_drop
set_option maxRecDepth 20000 in
theorem ggL_law_X10_drop : GoodIn wsL_law wsX10_drop := goodIn_r _ [999, 409, 150, 961, 944, 945, 5, 946, 465, 180, 181, 182, 1028, 1029, 1030, 1031, 1032, 1033, 1034, 1035, 1036, 1037, 1038, 1039, 1040, 1041, 1042, 1043, 1044, 1045, 1046, 1047, 1048, 1049, 1050, 1051, 1052, 1053] (by decide +kernel) (by decide +kernel)
set_option maxRecDepth 20000 in
theorem gL_law_X10_drop : GoodIn wsL_law (wsV RL 129 RX10 yX10_drop wsX10_drop) := goodIn_app (goodIn_of _ (by decide +kernel)) ggL_law_X10_drop
set_option maxRecDepth 20000 in
theorem ggL_law_X9_count : GoodIn wsL_law wsX9_count := goodIn_r _ [1003, 19, 396, 855, 29, 353, 15, 163, 162, 1004, 1005, 1006, 2, 1007, 45, 936, 1016, 1017, 1018, 1019, 1020, 1021, 1022, 1023, 1024, 1025, 1026, 1027, 1061, 1062, 1063, 1064, 1065, 1067, 1068, 1069, 1054, 1055, 1056, 1057, 1058, 1059, 1060, 1079, 1080, 1081, 1082, 1083] (by decide +kernel) (by decide +kernel)
set_option maxRecDepth 20000 in
theorem gL_law_X9_count : GoodIn wsL_law (wsV RL 130 RX9 yX9_count wsX9_count) := goodIn_app (goodIn_of _ (by decide +kernel)) ggL_law_X9_count
set_option maxRecDepth 20000 in
theorem ggL_law_X10_count : GoodIn wsL_law wsX10_count := goodIn_r _ [1011, 144, 143, 383, 178, 177, 1012, 1013, 1014, 5, 1015, 150, 1028, 1029, 1030, 1031, 1032, 1033, 1034, 1035, 1036, 1037, 1038, 1039, 1040, 1041, 1042, 1043, 1044, 1045, 1046, 1047, 1048, 1049, 1050, 1051, 1052, 1053] (by decide +kernel) (by decide +kernel)
set_option maxRecDepth 20000 in
theorem gL_law_X10_count : GoodIn wsL_law (wsV RL 133 RX10 yX10_count wsX10_count) := goodIn_app (goodIn_of _ (by decide +kernel)) ggL_law_X10_count
theorem dL_law_0 : decode cL_law 0 = .ok (.new 7, 3) := by decide +kernel
theorem dL_law_3 : decode cL_law 3 = .ok (.dup, 1) := by decide +kernel
theorem dL_law_4 : decode cL_law 4 = .ok (.invokespecial 9, 3) := by decide +kernel
theorem dL_law_7 : decode cL_law 7 = .ok (.astore_n 1, 1) := by decide +kernel
theorem dL_law_8 : decode cL_law 8 = .ok (.new 10, 3) := by decide +kernel
theorem dL_law_11 : decode cL_law 11 = .ok (.dup, 1) := by decide +kernel
theorem dL_law_12 : decode cL_law 12 = .ok (.invokespecial 12, 3) := by decide +kernel
theorem dL_law_15 : decode cL_law 15 = .ok (.astore_n 2, 1) := by decide +kernel
theorem dL_law_16 : decode cL_law 16 = .ok (.iconst 0, 1) := by decide +kernel
theorem dL_law_17 : decode cL_law 17 = .ok (.istore_n 3, 1) := by decide +kernel
theorem dL_law_18 : decode cL_law 18 = .ok (.iload_n 3, 1) := by decide +kernel
theorem dL_law_19 : decode cL_law 19 = .ok (.aload_n 0, 1) := by decide +kernel
theorem dL_law_20 : decode cL_law 20 = .ok (.arraylength, 1) := by decide +kernel
theorem dL_law_21 : decode cL_law 21 = .ok (.bipush 8, 2) := by decide +kernel
theorem dL_law_23 : decode cL_law 23 = .ok (.isub, 1) := by decide +kernel
theorem dL_law_24 : decode cL_law 24 = .ok (.if_icmp .gt 1056, 3) := by decide +kernel
theorem dL_law_27 : decode cL_law 27 = .ok (.aload_n 0, 1) := by decide +kernel
theorem dL_law_28 : decode cL_law 28 = .ok (.iload_n 3, 1) := by decide +kernel
theorem dL_law_29 : decode cL_law 29 = .ok (.iaload, 1) := by decide +kernel
theorem dL_law_30 : decode cL_law 30 = .ok (.bipush 31, 2) := by decide +kernel
theorem dL_law_32 : decode cL_law 32 = .ok (.iand, 1) := by decide +kernel
theorem dL_law_33 : decode cL_law 33 = .ok (.tableswitch 1041 0 27 #[127, 150, 163, 176, 189, 222, 285, 298, 311, 324, 367, 380, 403, 426, 470, 514, 537, 613, 701, 754, 797, 830, 853, 876, 929, 962, 995, 1018], 127) := by decide +kernel
theorem dL_law_160 : decode cL_law 160 = .ok (.aload_n 1, 1) := by decide +kernel
theorem dL_law_161 : decode cL_law 161 = .ok (.aload_n 0, 1) := by decide +kernel
theorem dL_law_162 : decode cL_law 162 = .ok (.iload_n 3, 1) := by decide +kernel
theorem dL_law_163 : decode cL_law 163 = .ok (.iconst 1, 1) := by decide +kernel
theorem dL_law_164 : decode cL_law 164 = .ok (.iadd, 1) := by decide +kernel
theorem dL_law_165 : decode cL_law 165 = .ok (.iaload, 1) := by decide +kernel
theorem dL_law_166 : decode cL_law 166 = .ok (.invokevirtual 13, 3) := by decide +kernel
theorem dL_law_169 : decode cL_law 169 = .ok (.aload_n 2, 1) := by decide +kernel
theorem dL_law_170 : decode cL_law 170 = .ok (.aload_n 0, 1) := by decide +kernel
theorem dL_law_171 : decode cL_law 171 = .ok (.iload_n 3, 1) := by decide +kernel
theorem dL_law_172 : decode cL_law 172 = .ok (.iconst 1, 1) := by decide +kernel
theorem dL_law_173 : decode cL_law 173 = .ok (.iadd, 1) := by decide +kernel
theorem dL_law_174 : decode cL_law 174 = .ok (.iaload, 1) := by decide +kernel
theorem dL_law_175 : decode cL_law 175 = .ok (.invokevirtual 17, 3) := by decide +kernel
theorem dL_law_178 : decode cL_law 178 = .ok (.if_icmp .eq 896, 3) := by decide +kernel
theorem dL_law_181 : decode cL_law 181 = .ok (.iconst 0, 1) := by decide +kernel
theorem dL_law_182 : decode cL_law 182 = .ok (.ireturn, 1) := by decide +kernel
theorem dL_law_183 : decode cL_law 183 = .ok (.aload_n 1, 1) := by decide +kernel
theorem dL_law_184 : decode cL_law 184 = .ok (.invokevirtual 18, 3) := by decide +kernel
theorem dL_law_187 : decode cL_law 187 = .ok (.aload_n 2, 1) := by decide +kernel
theorem dL_law_188 : decode cL_law 188 = .ok (.invokevirtual 22, 3) := by decide +kernel
theorem dL_law_191 : decode cL_law 191 = .ok (.if_icmp .eq 883, 3) := by decide +kernel
theorem dL_law_194 : decode cL_law 194 = .ok (.iconst 0, 1) := by decide +kernel
theorem dL_law_195 : decode cL_law 195 = .ok (.ireturn, 1) := by decide +kernel
theorem dL_law_196 : decode cL_law 196 = .ok (.aload_n 1, 1) := by decide +kernel
theorem dL_law_197 : decode cL_law 197 = .ok (.invokevirtual 23, 3) := by decide +kernel
theorem dL_law_200 : decode cL_law 200 = .ok (.aload_n 2, 1) := by decide +kernel
theorem dL_law_201 : decode cL_law 201 = .ok (.invokevirtual 26, 3) := by decide +kernel
theorem dL_law_204 : decode cL_law 204 = .ok (.if_icmp .eq 870, 3) := by decide +kernel
theorem dL_law_207 : decode cL_law 207 = .ok (.iconst 0, 1) := by decide +kernel
theorem dL_law_208 : decode cL_law 208 = .ok (.ireturn, 1) := by decide +kernel
theorem dL_law_209 : decode cL_law 209 = .ok (.aload_n 1, 1) := by decide +kernel
theorem dL_law_210 : decode cL_law 210 = .ok (.invokevirtual 27, 3) := by decide +kernel
theorem dL_law_213 : decode cL_law 213 = .ok (.aload_n 2, 1) := by decide +kernel
theorem dL_law_214 : decode cL_law 214 = .ok (.invokevirtual 30, 3) := by decide +kernel
theorem dL_law_217 : decode cL_law 217 = .ok (.if_icmp .eq 857, 3) := by decide +kernel
theorem dL_law_220 : decode cL_law 220 = .ok (.iconst 0, 1) := by decide +kernel
theorem dL_law_221 : decode cL_law 221 = .ok (.ireturn, 1) := by decide +kernel
theorem dL_law_222 : decode cL_law 222 = .ok (.aload_n 1, 1) := by decide +kernel
theorem dL_law_223 : decode cL_law 223 = .ok (.aload_n 0, 1) := by decide +kernel
theorem dL_law_224 : decode cL_law 224 = .ok (.iload_n 3, 1) := by decide +kernel
theorem dL_law_225 : decode cL_law 225 = .ok (.iconst 1, 1) := by decide +kernel
theorem dL_law_226 : decode cL_law 226 = .ok (.iadd, 1) := by decide +kernel
theorem dL_law_227 : decode cL_law 227 = .ok (.iaload, 1) := by decide +kernel
theorem dL_law_228 : decode cL_law 228 = .ok (.aload_n 0, 1) := by decide +kernel
theorem dL_law_229 : decode cL_law 229 = .ok (.iload_n 3, 1) := by decide +kernel
theorem dL_law_230 : decode cL_law 230 = .ok (.iconst 2, 1) := by decide +kernel
theorem dL_law_231 : decode cL_law 231 = .ok (.iadd, 1) := by decide +kernel
theorem dL_law_232 : decode cL_law 232 = .ok (.iaload, 1) := by decide +kernel
theorem dL_law_233 : decode cL_law 233 = .ok (.invokevirtual 31, 3) := by decide +kernel
theorem dL_law_236 : decode cL_law 236 = .ok (.aload_n 2, 1) := by decide +kernel
theorem dL_law_237 : decode cL_law 237 = .ok (.aload_n 0, 1) := by decide +kernel
theorem dL_law_238 : decode cL_law 238 = .ok (.iload_n 3, 1) := by decide +kernel
theorem dL_law_239 : decode cL_law 239 = .ok (.iconst 1, 1) := by decide +kernel
theorem dL_law_240 : decode cL_law 240 = .ok (.iadd, 1) := by decide +kernel
theorem dL_law_241 : decode cL_law 241 = .ok (.iaload, 1) := by decide +kernel
theorem dL_law_242 : decode cL_law 242 = .ok (.aload_n 0, 1) := by decide +kernel
theorem dL_law_243 : decode cL_law 243 = .ok (.iload_n 3, 1) := by decide +kernel
theorem dL_law_244 : decode cL_law 244 = .ok (.iconst 2, 1) := by decide +kernel
theorem dL_law_245 : decode cL_law 245 = .ok (.iadd, 1) := by decide +kernel
theorem dL_law_246 : decode cL_law 246 = .ok (.iaload, 1) := by decide +kernel
theorem dL_law_247 : decode cL_law 247 = .ok (.invokevirtual 35, 3) := by decide +kernel
theorem dL_law_250 : decode cL_law 250 = .ok (.if_icmp .eq 824, 3) := by decide +kernel
theorem dL_law_253 : decode cL_law 253 = .ok (.iconst 0, 1) := by decide +kernel
theorem dL_law_254 : decode cL_law 254 = .ok (.ireturn, 1) := by decide +kernel
theorem dL_law_255 : decode cL_law 255 = .ok (.aload_n 1, 1) := by decide +kernel
theorem dL_law_256 : decode cL_law 256 = .ok (.aload_n 0, 1) := by decide +kernel
theorem dL_law_257 : decode cL_law 257 = .ok (.iload_n 3, 1) := by decide +kernel
theorem dL_law_258 : decode cL_law 258 = .ok (.iconst 1, 1) := by decide +kernel
theorem dL_law_259 : decode cL_law 259 = .ok (.iadd, 1) := by decide +kernel
theorem dL_law_260 : decode cL_law 260 = .ok (.iaload, 1) := by decide +kernel
theorem dL_law_261 : decode cL_law 261 = .ok (.aload_n 0, 1) := by decide +kernel
theorem dL_law_262 : decode cL_law 262 = .ok (.iload_n 3, 1) := by decide +kernel
theorem dL_law_263 : decode cL_law 263 = .ok (.iconst 2, 1) := by decide +kernel
theorem dL_law_264 : decode cL_law 264 = .ok (.iadd, 1) := by decide +kernel
theorem dL_law_265 : decode cL_law 265 = .ok (.iaload, 1) := by decide +kernel
theorem dL_law_266 : decode cL_law 266 = .ok (.aload_n 0, 1) := by decide +kernel
theorem dL_law_267 : decode cL_law 267 = .ok (.iload_n 3, 1) := by decide +kernel
theorem dL_law_268 : decode cL_law 268 = .ok (.iconst 3, 1) := by decide +kernel
theorem dL_law_269 : decode cL_law 269 = .ok (.iadd, 1) := by decide +kernel
theorem dL_law_270 : decode cL_law 270 = .ok (.iaload, 1) := by decide +kernel
theorem dL_law_271 : decode cL_law 271 = .ok (.aload_n 0, 1) := by decide +kernel
theorem dL_law_272 : decode cL_law 272 = .ok (.iload_n 3, 1) := by decide +kernel
theorem dL_law_273 : decode cL_law 273 = .ok (.iconst 4, 1) := by decide +kernel
theorem dL_law_274 : decode cL_law 274 = .ok (.iadd, 1) := by decide +kernel
theorem dL_law_275 : decode cL_law 275 = .ok (.iaload, 1) := by decide +kernel
theorem dL_law_276 : decode cL_law 276 = .ok (.aload_n 0, 1) := by decide +kernel
theorem dL_law_277 : decode cL_law 277 = .ok (.iload_n 3, 1) := by decide +kernel
theorem dL_law_278 : decode cL_law 278 = .ok (.iconst 5, 1) := by decide +kernel
theorem dL_law_279 : decode cL_law 279 = .ok (.iadd, 1) := by decide +kernel
theorem dL_law_280 : decode cL_law 280 = .ok (.iaload, 1) := by decide +kernel
theorem dL_law_281 : decode cL_law 281 = .ok (.invokevirtual 36, 3) := by decide +kernel
theorem dL_law_284 : decode cL_law 284 = .ok (.aload_n 2, 1) := by decide +kernel
theorem dL_law_285 : decode cL_law 285 = .ok (.aload_n 0, 1) := by decide +kernel
theorem dL_law_286 : decode cL_law 286 = .ok (.iload_n 3, 1) := by decide +kernel
theorem dL_law_287 : decode cL_law 287 = .ok (.iconst 1, 1) := by decide +kernel
theorem dL_law_288 : decode cL_law 288 = .ok (.iadd, 1) := by decide +kernel
theorem dL_law_289 : decode cL_law 289 = .ok (.iaload, 1) := by decide +kernel
theorem dL_law_290 : decode cL_law 290 = .ok (.aload_n 0, 1) := by decide +kernel
theorem dL_law_291 : decode cL_law 291 = .ok (.iload_n 3, 1) := by decide +kernel
theorem dL_law_292 : decode cL_law 292 = .ok (.iconst 2, 1) := by decide +kernel
theorem dL_law_293 : decode cL_law 293 = .ok (.iadd, 1) := by decide +kernel
theorem dL_law_294 : decode cL_law 294 = .ok (.iaload, 1) := by decide +kernel
theorem dL_law_295 : decode cL_law 295 = .ok (.aload_n 0, 1) := by decide +kernel
theorem dL_law_296 : decode cL_law 296 = .ok (.iload_n 3, 1) := by decide +kernel
theorem dL_law_297 : decode cL_law 297 = .ok (.iconst 3, 1) := by decide +kernel
theorem dL_law_298 : decode cL_law 298 = .ok (.iadd, 1) := by decide +kernel
theorem dL_law_299 : decode cL_law 299 = .ok (.iaload, 1) := by decide +kernel
theorem dL_law_300 : decode cL_law 300 = .ok (.aload_n 0, 1) := by decide +kernel
theorem dL_law_301 : decode cL_law 301 = .ok (.iload_n 3, 1) := by decide +kernel
theorem dL_law_302 : decode cL_law 302 = .ok (.iconst 4, 1) := by decide +kernel
theorem dL_law_303 : decode cL_law 303 = .ok (.iadd, 1) := by decide +kernel
theorem dL_law_304 : decode cL_law 304 = .ok (.iaload, 1) := by decide +kernel
theorem dL_law_305 : decode cL_law 305 = .ok (.aload_n 0, 1) := by decide +kernel
theorem dL_law_306 : decode cL_law 306 = .ok (.iload_n 3, 1) := by decide +kernel
theorem dL_law_307 : decode cL_law 307 = .ok (.iconst 5, 1) := by decide +kernel
theorem dL_law_308 : decode cL_law 308 = .ok (.iadd, 1) := by decide +kernel
theorem dL_law_309 : decode cL_law 309 = .ok (.iaload, 1) := by decide +kernel
theorem dL_law_310 : decode cL_law 310 = .ok (.invokevirtual 40, 3) := by decide +kernel
theorem dL_law_313 : decode cL_law 313 = .ok (.if_icmp .eq 761, 3) := by decide +kernel
theorem dL_law_316 : decode cL_law 316 = .ok (.iconst 0, 1) := by decide +kernel
theorem dL_law_317 : decode cL_law 317 = .ok (.ireturn, 1) := by decide +kernel
theorem dL_law_318 : decode cL_law 318 = .ok (.aload_n 1, 1) := by decide +kernel
theorem dL_law_319 : decode cL_law 319 = .ok (.invokevirtual 41, 3) := by decide +kernel
theorem dL_law_322 : decode cL_law 322 = .ok (.aload_n 2, 1) := by decide +kernel
theorem dL_law_323 : decode cL_law 323 = .ok (.invokevirtual 44, 3) := by decide +kernel
theorem dL_law_326 : decode cL_law 326 = .ok (.if_icmp .eq 748, 3) := by decide +kernel
theorem dL_law_329 : decode cL_law 329 = .ok (.iconst 0, 1) := by decide +kernel
theorem dL_law_330 : decode cL_law 330 = .ok (.ireturn, 1) := by decide +kernel
theorem dL_law_331 : decode cL_law 331 = .ok (.aload_n 1, 1) := by decide +kernel
theorem dL_law_332 : decode cL_law 332 = .ok (.invokevirtual 45, 3) := by decide +kernel
theorem dL_law_335 : decode cL_law 335 = .ok (.aload_n 2, 1) := by decide +kernel
theorem dL_law_336 : decode cL_law 336 = .ok (.invokevirtual 48, 3) := by decide +kernel
theorem dL_law_339 : decode cL_law 339 = .ok (.if_icmp .eq 735, 3) := by decide +kernel
theorem dL_law_342 : decode cL_law 342 = .ok (.iconst 0, 1) := by decide +kernel
theorem dL_law_343 : decode cL_law 343 = .ok (.ireturn, 1) := by decide +kernel
theorem dL_law_344 : decode cL_law 344 = .ok (.aload_n 1, 1) := by decide +kernel
theorem dL_law_345 : decode cL_law 345 = .ok (.invokevirtual 49, 3) := by decide +kernel
theorem dL_law_348 : decode cL_law 348 = .ok (.aload_n 2, 1) := by decide +kernel
theorem dL_law_349 : decode cL_law 349 = .ok (.invokevirtual 52, 3) := by decide +kernel
theorem dL_law_352 : decode cL_law 352 = .ok (.if_icmp .eq 722, 3) := by decide +kernel
theorem dL_law_355 : decode cL_law 355 = .ok (.iconst 0, 1) := by decide +kernel
theorem dL_law_356 : decode cL_law 356 = .ok (.ireturn, 1) := by decide +kernel
theorem dL_law_357 : decode cL_law 357 = .ok (.aload_n 1, 1) := by decide +kernel
theorem dL_law_358 : decode cL_law 358 = .ok (.aload_n 0, 1) := by decide +kernel
theorem dL_law_359 : decode cL_law 359 = .ok (.iload_n 3, 1) := by decide +kernel
theorem dL_law_360 : decode cL_law 360 = .ok (.iconst 1, 1) := by decide +kernel
theorem dL_law_361 : decode cL_law 361 = .ok (.iadd, 1) := by decide +kernel
theorem dL_law_362 : decode cL_law 362 = .ok (.iaload, 1) := by decide +kernel
theorem dL_law_363 : decode cL_law 363 = .ok (.aload_n 0, 1) := by decide +kernel
theorem dL_law_364 : decode cL_law 364 = .ok (.iload_n 3, 1) := by decide +kernel
theorem dL_law_365 : decode cL_law 365 = .ok (.iconst 2, 1) := by decide +kernel
theorem dL_law_366 : decode cL_law 366 = .ok (.iadd, 1) := by decide +kernel
theorem dL_law_367 : decode cL_law 367 = .ok (.iaload, 1) := by decide +kernel
theorem dL_law_368 : decode cL_law 368 = .ok (.aload_n 0, 1) := by decide +kernel
theorem dL_law_369 : decode cL_law 369 = .ok (.iload_n 3, 1) := by decide +kernel
theorem dL_law_370 : decode cL_law 370 = .ok (.iconst 3, 1) := by decide +kernel
theorem dL_law_371 : decode cL_law 371 = .ok (.iadd, 1) := by decide +kernel
theorem dL_law_372 : decode cL_law 372 = .ok (.iaload, 1) := by decide +kernel
theorem dL_law_373 : decode cL_law 373 = .ok (.invokevirtual 53, 3) := by decide +kernel
theorem dL_law_376 : decode cL_law 376 = .ok (.aload_n 2, 1) := by decide +kernel
theorem dL_law_377 : decode cL_law 377 = .ok (.aload_n 0, 1) := by decide +kernel
theorem dL_law_378 : decode cL_law 378 = .ok (.iload_n 3, 1) := by decide +kernel
theorem dL_law_379 : decode cL_law 379 = .ok (.iconst 1, 1) := by decide +kernel
theorem dL_law_380 : decode cL_law 380 = .ok (.iadd, 1) := by decide +kernel
theorem dL_law_381 : decode cL_law 381 = .ok (.iaload, 1) := by decide +kernel
theorem dL_law_382 : decode cL_law 382 = .ok (.aload_n 0, 1) := by decide +kernel
theorem dL_law_383 : decode cL_law 383 = .ok (.iload_n 3, 1) := by decide +kernel
theorem dL_law_384 : decode cL_law 384 = .ok (.iconst 2, 1) := by decide +kernel
theorem dL_law_385 : decode cL_law 385 = .ok (.iadd, 1) := by decide +kernel
theorem dL_law_386 : decode cL_law 386 = .ok (.iaload, 1) := by decide +kernel
theorem dL_law_387 : decode cL_law 387 = .ok (.aload_n 0, 1) := by decide +kernel
theorem dL_law_388 : decode cL_law 388 = .ok (.iload_n 3, 1) := by decide +kernel
theorem dL_law_389 : decode cL_law 389 = .ok (.iconst 3, 1) := by decide +kernel
theorem dL_law_390 : decode cL_law 390 = .ok (.iadd, 1) := by decide +kernel
theorem dL_law_391 : decode cL_law 391 = .ok (.iaload, 1) := by decide +kernel
theorem dL_law_392 : decode cL_law 392 = .ok (.invokevirtual 57, 3) := by decide +kernel
theorem dL_law_395 : decode cL_law 395 = .ok (.if_icmp .eq 679, 3) := by decide +kernel
theorem dL_law_398 : decode cL_law 398 = .ok (.iconst 0, 1) := by decide +kernel
theorem dL_law_399 : decode cL_law 399 = .ok (.ireturn, 1) := by decide +kernel
theorem dL_law_400 : decode cL_law 400 = .ok (.aload_n 1, 1) := by decide +kernel
theorem dL_law_401 : decode cL_law 401 = .ok (.invokevirtual 58, 3) := by decide +kernel
theorem dL_law_404 : decode cL_law 404 = .ok (.aload_n 2, 1) := by decide +kernel
theorem dL_law_405 : decode cL_law 405 = .ok (.invokevirtual 61, 3) := by decide +kernel
theorem dL_law_408 : decode cL_law 408 = .ok (.if_icmp .eq 666, 3) := by decide +kernel
theorem dL_law_411 : decode cL_law 411 = .ok (.iconst 0, 1) := by decide +kernel
theorem dL_law_412 : decode cL_law 412 = .ok (.ireturn, 1) := by decide +kernel
theorem dL_law_413 : decode cL_law 413 = .ok (.aload_n 1, 1) := by decide +kernel
theorem dL_law_414 : decode cL_law 414 = .ok (.aload_n 0, 1) := by decide +kernel
theorem dL_law_415 : decode cL_law 415 = .ok (.iload_n 3, 1) := by decide +kernel
theorem dL_law_416 : decode cL_law 416 = .ok (.iconst 1, 1) := by decide +kernel
theorem dL_law_417 : decode cL_law 417 = .ok (.iadd, 1) := by decide +kernel
theorem dL_law_418 : decode cL_law 418 = .ok (.iaload, 1) := by decide +kernel
theorem dL_law_419 : decode cL_law 419 = .ok (.invokevirtual 62, 3) := by decide +kernel
theorem dL_law_422 : decode cL_law 422 = .ok (.aload_n 2, 1) := by decide +kernel
theorem dL_law_423 : decode cL_law 423 = .ok (.aload_n 0, 1) := by decide +kernel
theorem dL_law_424 : decode cL_law 424 = .ok (.iload_n 3, 1) := by decide +kernel
theorem dL_law_425 : decode cL_law 425 = .ok (.iconst 1, 1) := by decide +kernel
theorem dL_law_426 : decode cL_law 426 = .ok (.iadd, 1) := by decide +kernel
theorem dL_law_427 : decode cL_law 427 = .ok (.iaload, 1) := by decide +kernel
theorem dL_law_428 : decode cL_law 428 = .ok (.invokevirtual 65, 3) := by decide +kernel
theorem dL_law_431 : decode cL_law 431 = .ok (.if_icmp .eq 643, 3) := by decide +kernel
theorem dL_law_434 : decode cL_law 434 = .ok (.iconst 0, 1) := by decide +kernel
theorem dL_law_435 : decode cL_law 435 = .ok (.ireturn, 1) := by decide +kernel
theorem dL_law_436 : decode cL_law 436 = .ok (.aload_n 1, 1) := by decide +kernel
theorem dL_law_437 : decode cL_law 437 = .ok (.aload_n 0, 1) := by decide +kernel
theorem dL_law_438 : decode cL_law 438 = .ok (.iload_n 3, 1) := by decide +kernel
theorem dL_law_439 : decode cL_law 439 = .ok (.iconst 1, 1) := by decide +kernel
theorem dL_law_440 : decode cL_law 440 = .ok (.iadd, 1) := by decide +kernel
theorem dL_law_441 : decode cL_law 441 = .ok (.iaload, 1) := by decide +kernel
theorem dL_law_442 : decode cL_law 442 = .ok (.invokevirtual 66, 3) := by decide +kernel
theorem dL_law_445 : decode cL_law 445 = .ok (.aload_n 2, 1) := by decide +kernel
theorem dL_law_446 : decode cL_law 446 = .ok (.aload_n 0, 1) := by decide +kernel
theorem dL_law_447 : decode cL_law 447 = .ok (.iload_n 3, 1) := by decide +kernel
theorem dL_law_448 : decode cL_law 448 = .ok (.iconst 1, 1) := by decide +kernel
theorem dL_law_449 : decode cL_law 449 = .ok (.iadd, 1) := by decide +kernel
theorem dL_law_450 : decode cL_law 450 = .ok (.iaload, 1) := by decide +kernel
theorem dL_law_451 : decode cL_law 451 = .ok (.invokevirtual 69, 3) := by decide +kernel
theorem dL_law_454 : decode cL_law 454 = .ok (.if_icmp .eq 620, 3) := by decide +kernel
theorem dL_law_457 : decode cL_law 457 = .ok (.iconst 0, 1) := by decide +kernel
theorem dL_law_458 : decode cL_law 458 = .ok (.ireturn, 1) := by decide +kernel
theorem dL_law_459 : decode cL_law 459 = .ok (.aload_n 1, 1) := by decide +kernel
theorem dL_law_460 : decode cL_law 460 = .ok (.aload_n 0, 1) := by decide +kernel
theorem dL_law_461 : decode cL_law 461 = .ok (.iload_n 3, 1) := by decide +kernel
theorem dL_law_462 : decode cL_law 462 = .ok (.iconst 1, 1) := by decide +kernel
theorem dL_law_463 : decode cL_law 463 = .ok (.iadd, 1) := by decide +kernel
theorem dL_law_464 : decode cL_law 464 = .ok (.iaload, 1) := by decide +kernel
theorem dL_law_465 : decode cL_law 465 = .ok (.aload_n 0, 1) := by decide +kernel
theorem dL_law_466 : decode cL_law 466 = .ok (.iload_n 3, 1) := by decide +kernel
theorem dL_law_467 : decode cL_law 467 = .ok (.iconst 2, 1) := by decide +kernel
theorem dL_law_468 : decode cL_law 468 = .ok (.iadd, 1) := by decide +kernel
theorem dL_law_469 : decode cL_law 469 = .ok (.iaload, 1) := by decide +kernel
theorem dL_law_470 : decode cL_law 470 = .ok (.aload_n 0, 1) := by decide +kernel
theorem dL_law_471 : decode cL_law 471 = .ok (.iload_n 3, 1) := by decide +kernel
theorem dL_law_472 : decode cL_law 472 = .ok (.iconst 3, 1) := by decide +kernel
theorem dL_law_473 : decode cL_law 473 = .ok (.iadd, 1) := by decide +kernel
theorem dL_law_474 : decode cL_law 474 = .ok (.iaload, 1) := by decide +kernel
theorem dL_law_475 : decode cL_law 475 = .ok (.invokevirtual 70, 3) := by decide +kernel
theorem dL_law_478 : decode cL_law 478 = .ok (.aload_n 2, 1) := by decide +kernel
theorem dL_law_479 : decode cL_law 479 = .ok (.aload_n 0, 1) := by decide +kernel
theorem dL_law_480 : decode cL_law 480 = .ok (.iload_n 3, 1) := by decide +kernel
theorem dL_law_481 : decode cL_law 481 = .ok (.iconst 1, 1) := by decide +kernel
theorem dL_law_482 : decode cL_law 482 = .ok (.iadd, 1) := by decide +kernel
theorem dL_law_483 : decode cL_law 483 = .ok (.iaload, 1) := by decide +kernel
theorem dL_law_484 : decode cL_law 484 = .ok (.aload_n 0, 1) := by decide +kernel
theorem dL_law_485 : decode cL_law 485 = .ok (.iload_n 3, 1) := by decide +kernel
theorem dL_law_486 : decode cL_law 486 = .ok (.iconst 2, 1) := by decide +kernel
theorem dL_law_487 : decode cL_law 487 = .ok (.iadd, 1) := by decide +kernel
theorem dL_law_488 : decode cL_law 488 = .ok (.iaload, 1) := by decide +kernel
theorem dL_law_489 : decode cL_law 489 = .ok (.aload_n 0, 1) := by decide +kernel
theorem dL_law_490 : decode cL_law 490 = .ok (.iload_n 3, 1) := by decide +kernel
theorem dL_law_491 : decode cL_law 491 = .ok (.iconst 3, 1) := by decide +kernel
theorem dL_law_492 : decode cL_law 492 = .ok (.iadd, 1) := by decide +kernel
theorem dL_law_493 : decode cL_law 493 = .ok (.iaload, 1) := by decide +kernel
theorem dL_law_494 : decode cL_law 494 = .ok (.invokevirtual 74, 3) := by decide +kernel
theorem dL_law_497 : decode cL_law 497 = .ok (.lcmp, 1) := by decide +kernel
theorem dL_law_498 : decode cL_law 498 = .ok (.ifCond .eq 576, 3) := by decide +kernel
theorem dL_law_501 : decode cL_law 501 = .ok (.iconst 0, 1) := by decide +kernel
theorem dL_law_502 : decode cL_law 502 = .ok (.ireturn, 1) := by decide +kernel
theorem dL_law_503 : decode cL_law 503 = .ok (.aload_n 1, 1) := by decide +kernel
theorem dL_law_504 : decode cL_law 504 = .ok (.aload_n 0, 1) := by decide +kernel
theorem dL_law_505 : decode cL_law 505 = .ok (.iload_n 3, 1) := by decide +kernel
theorem dL_law_506 : decode cL_law 506 = .ok (.iconst 1, 1) := by decide +kernel
theorem dL_law_507 : decode cL_law 507 = .ok (.iadd, 1) := by decide +kernel
theorem dL_law_508 : decode cL_law 508 = .ok (.iaload, 1) := by decide +kernel
theorem dL_law_509 : decode cL_law 509 = .ok (.aload_n 0, 1) := by decide +kernel
theorem dL_law_510 : decode cL_law 510 = .ok (.iload_n 3, 1) := by decide +kernel
theorem dL_law_511 : decode cL_law 511 = .ok (.iconst 2, 1) := by decide +kernel
theorem dL_law_512 : decode cL_law 512 = .ok (.iadd, 1) := by decide +kernel
theorem dL_law_513 : decode cL_law 513 = .ok (.iaload, 1) := by decide +kernel
theorem dL_law_514 : decode cL_law 514 = .ok (.aload_n 0, 1) := by decide +kernel
theorem dL_law_515 : decode cL_law 515 = .ok (.iload_n 3, 1) := by decide +kernel
theorem dL_law_516 : decode cL_law 516 = .ok (.iconst 3, 1) := by decide +kernel
theorem dL_law_517 : decode cL_law 517 = .ok (.iadd, 1) := by decide +kernel
theorem dL_law_518 : decode cL_law 518 = .ok (.iaload, 1) := by decide +kernel
theorem dL_law_519 : decode cL_law 519 = .ok (.invokevirtual 75, 3) := by decide +kernel
theorem dL_law_522 : decode cL_law 522 = .ok (.aload_n 2, 1) := by decide +kernel
theorem dL_law_523 : decode cL_law 523 = .ok (.aload_n 0, 1) := by decide +kernel
theorem dL_law_524 : decode cL_law 524 = .ok (.iload_n 3, 1) := by decide +kernel
theorem dL_law_525 : decode cL_law 525 = .ok (.iconst 1, 1) := by decide +kernel
theorem dL_law_526 : decode cL_law 526 = .ok (.iadd, 1) := by decide +kernel
theorem dL_law_527 : decode cL_law 527 = .ok (.iaload, 1) := by decide +kernel
theorem dL_law_528 : decode cL_law 528 = .ok (.aload_n 0, 1) := by decide +kernel
theorem dL_law_529 : decode cL_law 529 = .ok (.iload_n 3, 1) := by decide +kernel
theorem dL_law_530 : decode cL_law 530 = .ok (.iconst 2, 1) := by decide +kernel
theorem dL_law_531 : decode cL_law 531 = .ok (.iadd, 1) := by decide +kernel
theorem dL_law_532 : decode cL_law 532 = .ok (.iaload, 1) := by decide +kernel
theorem dL_law_533 : decode cL_law 533 = .ok (.aload_n 0, 1) := by decide +kernel
theorem dL_law_534 : decode cL_law 534 = .ok (.iload_n 3, 1) := by decide +kernel
theorem dL_law_535 : decode cL_law 535 = .ok (.iconst 3, 1) := by decide +kernel
theorem dL_law_536 : decode cL_law 536 = .ok (.iadd, 1) := by decide +kernel
theorem dL_law_537 : decode cL_law 537 = .ok (.iaload, 1) := by decide +kernel
theorem dL_law_538 : decode cL_law 538 = .ok (.invokevirtual 78, 3) := by decide +kernel
theorem dL_law_541 : decode cL_law 541 = .ok (.lcmp, 1) := by decide +kernel
theorem dL_law_542 : decode cL_law 542 = .ok (.ifCond .eq 532, 3) := by decide +kernel
theorem dL_law_545 : decode cL_law 545 = .ok (.iconst 0, 1) := by decide +kernel
theorem dL_law_546 : decode cL_law 546 = .ok (.ireturn, 1) := by decide +kernel
theorem dL_law_547 : decode cL_law 547 = .ok (.aload_n 1, 1) := by decide +kernel
theorem dL_law_548 : decode cL_law 548 = .ok (.aload_n 0, 1) := by decide +kernel
theorem dL_law_549 : decode cL_law 549 = .ok (.iload_n 3, 1) := by decide +kernel
theorem dL_law_550 : decode cL_law 550 = .ok (.iconst 1, 1) := by decide +kernel
theorem dL_law_551 : decode cL_law 551 = .ok (.iadd, 1) := by decide +kernel
theorem dL_law_552 : decode cL_law 552 = .ok (.iaload, 1) := by decide +kernel
theorem dL_law_553 : decode cL_law 553 = .ok (.invokevirtual 79, 3) := by decide +kernel
theorem dL_law_556 : decode cL_law 556 = .ok (.aload_n 2, 1) := by decide +kernel
theorem dL_law_557 : decode cL_law 557 = .ok (.aload_n 0, 1) := by decide +kernel
theorem dL_law_558 : decode cL_law 558 = .ok (.iload_n 3, 1) := by decide +kernel
theorem dL_law_559 : decode cL_law 559 = .ok (.iconst 1, 1) := by decide +kernel
theorem dL_law_560 : decode cL_law 560 = .ok (.iadd, 1) := by decide +kernel
theorem dL_law_561 : decode cL_law 561 = .ok (.iaload, 1) := by decide +kernel
theorem dL_law_562 : decode cL_law 562 = .ok (.invokevirtual 82, 3) := by decide +kernel
theorem dL_law_565 : decode cL_law 565 = .ok (.if_icmp .eq 509, 3) := by decide +kernel
theorem dL_law_568 : decode cL_law 568 = .ok (.iconst 0, 1) := by decide +kernel
theorem dL_law_569 : decode cL_law 569 = .ok (.ireturn, 1) := by decide +kernel
theorem dL_law_570 : decode cL_law 570 = .ok (.aload_n 1, 1) := by decide +kernel
theorem dL_law_571 : decode cL_law 571 = .ok (.aload_n 0, 1) := by decide +kernel
theorem dL_law_572 : decode cL_law 572 = .ok (.iload_n 3, 1) := by decide +kernel
theorem dL_law_573 : decode cL_law 573 = .ok (.iconst 1, 1) := by decide +kernel
theorem dL_law_574 : decode cL_law 574 = .ok (.iadd, 1) := by decide +kernel
theorem dL_law_575 : decode cL_law 575 = .ok (.iaload, 1) := by decide +kernel
theorem dL_law_576 : decode cL_law 576 = .ok (.aload_n 0, 1) := by decide +kernel
theorem dL_law_577 : decode cL_law 577 = .ok (.iload_n 3, 1) := by decide +kernel
theorem dL_law_578 : decode cL_law 578 = .ok (.iconst 2, 1) := by decide +kernel
theorem dL_law_579 : decode cL_law 579 = .ok (.iadd, 1) := by decide +kernel
theorem dL_law_580 : decode cL_law 580 = .ok (.iaload, 1) := by decide +kernel
theorem dL_law_581 : decode cL_law 581 = .ok (.aload_n 0, 1) := by decide +kernel
theorem dL_law_582 : decode cL_law 582 = .ok (.iload_n 3, 1) := by decide +kernel
theorem dL_law_583 : decode cL_law 583 = .ok (.iconst 3, 1) := by decide +kernel
theorem dL_law_584 : decode cL_law 584 = .ok (.iadd, 1) := by decide +kernel
theorem dL_law_585 : decode cL_law 585 = .ok (.iaload, 1) := by decide +kernel
theorem dL_law_586 : decode cL_law 586 = .ok (.aload_n 0, 1) := by decide +kernel
theorem dL_law_587 : decode cL_law 587 = .ok (.iload_n 3, 1) := by decide +kernel
theorem dL_law_588 : decode cL_law 588 = .ok (.iconst 4, 1) := by decide +kernel
theorem dL_law_589 : decode cL_law 589 = .ok (.iadd, 1) := by decide +kernel
theorem dL_law_590 : decode cL_law 590 = .ok (.iaload, 1) := by decide +kernel
theorem dL_law_591 : decode cL_law 591 = .ok (.aload_n 0, 1) := by decide +kernel
theorem dL_law_592 : decode cL_law 592 = .ok (.iload_n 3, 1) := by decide +kernel
theorem dL_law_593 : decode cL_law 593 = .ok (.iconst 5, 1) := by decide +kernel
theorem dL_law_594 : decode cL_law 594 = .ok (.iadd, 1) := by decide +kernel
theorem dL_law_595 : decode cL_law 595 = .ok (.iaload, 1) := by decide +kernel
theorem dL_law_596 : decode cL_law 596 = .ok (.aload_n 0, 1) := by decide +kernel
theorem dL_law_597 : decode cL_law 597 = .ok (.iload_n 3, 1) := by decide +kernel
theorem dL_law_598 : decode cL_law 598 = .ok (.bipush 6, 2) := by decide +kernel
theorem dL_law_600 : decode cL_law 600 = .ok (.iadd, 1) := by decide +kernel
theorem dL_law_601 : decode cL_law 601 = .ok (.iaload, 1) := by decide +kernel
theorem dL_law_602 : decode cL_law 602 = .ok (.invokevirtual 83, 3) := by decide +kernel
theorem dL_law_605 : decode cL_law 605 = .ok (.aload_n 2, 1) := by decide +kernel
theorem dL_law_606 : decode cL_law 606 = .ok (.aload_n 0, 1) := by decide +kernel
theorem dL_law_607 : decode cL_law 607 = .ok (.iload_n 3, 1) := by decide +kernel
theorem dL_law_608 : decode cL_law 608 = .ok (.iconst 1, 1) := by decide +kernel
theorem dL_law_609 : decode cL_law 609 = .ok (.iadd, 1) := by decide +kernel
theorem dL_law_610 : decode cL_law 610 = .ok (.iaload, 1) := by decide +kernel
theorem dL_law_611 : decode cL_law 611 = .ok (.aload_n 0, 1) := by decide +kernel
theorem dL_law_612 : decode cL_law 612 = .ok (.iload_n 3, 1) := by decide +kernel
theorem dL_law_613 : decode cL_law 613 = .ok (.iconst 2, 1) := by decide +kernel
theorem dL_law_614 : decode cL_law 614 = .ok (.iadd, 1) := by decide +kernel
theorem dL_law_615 : decode cL_law 615 = .ok (.iaload, 1) := by decide +kernel
theorem dL_law_616 : decode cL_law 616 = .ok (.aload_n 0, 1) := by decide +kernel
theorem dL_law_617 : decode cL_law 617 = .ok (.iload_n 3, 1) := by decide +kernel
theorem dL_law_618 : decode cL_law 618 = .ok (.iconst 3, 1) := by decide +kernel
theorem dL_law_619 : decode cL_law 619 = .ok (.iadd, 1) := by decide +kernel
theorem dL_law_620 : decode cL_law 620 = .ok (.iaload, 1) := by decide +kernel
theorem dL_law_621 : decode cL_law 621 = .ok (.aload_n 0, 1) := by decide +kernel
theorem dL_law_622 : decode cL_law 622 = .ok (.iload_n 3, 1) := by decide +kernel
theorem dL_law_623 : decode cL_law 623 = .ok (.iconst 4, 1) := by decide +kernel
theorem dL_law_624 : decode cL_law 624 = .ok (.iadd, 1) := by decide +kernel
theorem dL_law_625 : decode cL_law 625 = .ok (.iaload, 1) := by decide +kernel
theorem dL_law_626 : decode cL_law 626 = .ok (.aload_n 0, 1) := by decide +kernel
theorem dL_law_627 : decode cL_law 627 = .ok (.iload_n 3, 1) := by decide +kernel
theorem dL_law_628 : decode cL_law 628 = .ok (.iconst 5, 1) := by decide +kernel
theorem dL_law_629 : decode cL_law 629 = .ok (.iadd, 1) := by decide +kernel
theorem dL_law_630 : decode cL_law 630 = .ok (.iaload, 1) := by decide +kernel
theorem dL_law_631 : decode cL_law 631 = .ok (.aload_n 0, 1) := by decide +kernel
theorem dL_law_632 : decode cL_law 632 = .ok (.iload_n 3, 1) := by decide +kernel
theorem dL_law_633 : decode cL_law 633 = .ok (.bipush 6, 2) := by decide +kernel
theorem dL_law_635 : decode cL_law 635 = .ok (.iadd, 1) := by decide +kernel
theorem dL_law_636 : decode cL_law 636 = .ok (.iaload, 1) := by decide +kernel
theorem dL_law_637 : decode cL_law 637 = .ok (.invokevirtual 87, 3) := by decide +kernel
theorem dL_law_640 : decode cL_law 640 = .ok (.lcmp, 1) := by decide +kernel
theorem dL_law_641 : decode cL_law 641 = .ok (.ifCond .eq 433, 3) := by decide +kernel
theorem dL_law_644 : decode cL_law 644 = .ok (.iconst 0, 1) := by decide +kernel
theorem dL_law_645 : decode cL_law 645 = .ok (.ireturn, 1) := by decide +kernel
theorem dL_law_646 : decode cL_law 646 = .ok (.aload_n 1, 1) := by decide +kernel
theorem dL_law_647 : decode cL_law 647 = .ok (.aload_n 0, 1) := by decide +kernel
theorem dL_law_648 : decode cL_law 648 = .ok (.iload_n 3, 1) := by decide +kernel
theorem dL_law_649 : decode cL_law 649 = .ok (.iconst 1, 1) := by decide +kernel
theorem dL_law_650 : decode cL_law 650 = .ok (.iadd, 1) := by decide +kernel
theorem dL_law_651 : decode cL_law 651 = .ok (.iaload, 1) := by decide +kernel
theorem dL_law_652 : decode cL_law 652 = .ok (.aload_n 0, 1) := by decide +kernel
theorem dL_law_653 : decode cL_law 653 = .ok (.iload_n 3, 1) := by decide +kernel
theorem dL_law_654 : decode cL_law 654 = .ok (.iconst 2, 1) := by decide +kernel
theorem dL_law_655 : decode cL_law 655 = .ok (.iadd, 1) := by decide +kernel
theorem dL_law_656 : decode cL_law 656 = .ok (.iaload, 1) := by decide +kernel
theorem dL_law_657 : decode cL_law 657 = .ok (.aload_n 0, 1) := by decide +kernel
theorem dL_law_658 : decode cL_law 658 = .ok (.iload_n 3, 1) := by decide +kernel
theorem dL_law_659 : decode cL_law 659 = .ok (.iconst 3, 1) := by decide +kernel
theorem dL_law_660 : decode cL_law 660 = .ok (.iadd, 1) := by decide +kernel
theorem dL_law_661 : decode cL_law 661 = .ok (.iaload, 1) := by decide +kernel
theorem dL_law_662 : decode cL_law 662 = .ok (.aload_n 0, 1) := by decide +kernel
theorem dL_law_663 : decode cL_law 663 = .ok (.iload_n 3, 1) := by decide +kernel
theorem dL_law_664 : decode cL_law 664 = .ok (.iconst 4, 1) := by decide +kernel
theorem dL_law_665 : decode cL_law 665 = .ok (.iadd, 1) := by decide +kernel
theorem dL_law_666 : decode cL_law 666 = .ok (.iaload, 1) := by decide +kernel
theorem dL_law_667 : decode cL_law 667 = .ok (.aload_n 0, 1) := by decide +kernel
theorem dL_law_668 : decode cL_law 668 = .ok (.iload_n 3, 1) := by decide +kernel
theorem dL_law_669 : decode cL_law 669 = .ok (.iconst 5, 1) := by decide +kernel
theorem dL_law_670 : decode cL_law 670 = .ok (.iadd, 1) := by decide +kernel
theorem dL_law_671 : decode cL_law 671 = .ok (.iaload, 1) := by decide +kernel
theorem dL_law_672 : decode cL_law 672 = .ok (.aload_n 0, 1) := by decide +kernel
theorem dL_law_673 : decode cL_law 673 = .ok (.iload_n 3, 1) := by decide +kernel
theorem dL_law_674 : decode cL_law 674 = .ok (.bipush 6, 2) := by decide +kernel
theorem dL_law_676 : decode cL_law 676 = .ok (.iadd, 1) := by decide +kernel
theorem dL_law_677 : decode cL_law 677 = .ok (.iaload, 1) := by decide +kernel
theorem dL_law_678 : decode cL_law 678 = .ok (.aload_n 0, 1) := by decide +kernel
theorem dL_law_679 : decode cL_law 679 = .ok (.iload_n 3, 1) := by decide +kernel
theorem dL_law_680 : decode cL_law 680 = .ok (.bipush 7, 2) := by decide +kernel
theorem dL_law_682 : decode cL_law 682 = .ok (.iadd, 1) := by decide +kernel
theorem dL_law_683 : decode cL_law 683 = .ok (.iaload, 1) := by decide +kernel
theorem dL_law_684 : decode cL_law 684 = .ok (.invokevirtual 88, 3) := by decide +kernel
theorem dL_law_687 : decode cL_law 687 = .ok (.aload_n 2, 1) := by decide +kernel
theorem dL_law_688 : decode cL_law 688 = .ok (.aload_n 0, 1) := by decide +kernel
theorem dL_law_689 : decode cL_law 689 = .ok (.iload_n 3, 1) := by decide +kernel
theorem dL_law_690 : decode cL_law 690 = .ok (.iconst 1, 1) := by decide +kernel
theorem dL_law_691 : decode cL_law 691 = .ok (.iadd, 1) := by decide +kernel
theorem dL_law_692 : decode cL_law 692 = .ok (.iaload, 1) := by decide +kernel
theorem dL_law_693 : decode cL_law 693 = .ok (.aload_n 0, 1) := by decide +kernel
theorem dL_law_694 : decode cL_law 694 = .ok (.iload_n 3, 1) := by decide +kernel
theorem dL_law_695 : decode cL_law 695 = .ok (.iconst 2, 1) := by decide +kernel
theorem dL_law_696 : decode cL_law 696 = .ok (.iadd, 1) := by decide +kernel
theorem dL_law_697 : decode cL_law 697 = .ok (.iaload, 1) := by decide +kernel
theorem dL_law_698 : decode cL_law 698 = .ok (.aload_n 0, 1) := by decide +kernel
theorem dL_law_699 : decode cL_law 699 = .ok (.iload_n 3, 1) := by decide +kernel
theorem dL_law_700 : decode cL_law 700 = .ok (.iconst 3, 1) := by decide +kernel
theorem dL_law_701 : decode cL_law 701 = .ok (.iadd, 1) := by decide +kernel
theorem dL_law_702 : decode cL_law 702 = .ok (.iaload, 1) := by decide +kernel
theorem dL_law_703 : decode cL_law 703 = .ok (.aload_n 0, 1) := by decide +kernel
theorem dL_law_704 : decode cL_law 704 = .ok (.iload_n 3, 1) := by decide +kernel
theorem dL_law_705 : decode cL_law 705 = .ok (.iconst 4, 1) := by decide +kernel
theorem dL_law_706 : decode cL_law 706 = .ok (.iadd, 1) := by decide +kernel
theorem dL_law_707 : decode cL_law 707 = .ok (.iaload, 1) := by decide +kernel
theorem dL_law_708 : decode cL_law 708 = .ok (.aload_n 0, 1) := by decide +kernel
theorem dL_law_709 : decode cL_law 709 = .ok (.iload_n 3, 1) := by decide +kernel
theorem dL_law_710 : decode cL_law 710 = .ok (.iconst 5, 1) := by decide +kernel
theorem dL_law_711 : decode cL_law 711 = .ok (.iadd, 1) := by decide +kernel
theorem dL_law_712 : decode cL_law 712 = .ok (.iaload, 1) := by decide +kernel
theorem dL_law_713 : decode cL_law 713 = .ok (.aload_n 0, 1) := by decide +kernel
theorem dL_law_714 : decode cL_law 714 = .ok (.iload_n 3, 1) := by decide +kernel
theorem dL_law_715 : decode cL_law 715 = .ok (.bipush 6, 2) := by decide +kernel
theorem dL_law_717 : decode cL_law 717 = .ok (.iadd, 1) := by decide +kernel
theorem dL_law_718 : decode cL_law 718 = .ok (.iaload, 1) := by decide +kernel
theorem dL_law_719 : decode cL_law 719 = .ok (.aload_n 0, 1) := by decide +kernel
theorem dL_law_720 : decode cL_law 720 = .ok (.iload_n 3, 1) := by decide +kernel
theorem dL_law_721 : decode cL_law 721 = .ok (.bipush 7, 2) := by decide +kernel
theorem dL_law_723 : decode cL_law 723 = .ok (.iadd, 1) := by decide +kernel
theorem dL_law_724 : decode cL_law 724 = .ok (.iaload, 1) := by decide +kernel
theorem dL_law_725 : decode cL_law 725 = .ok (.invokevirtual 92, 3) := by decide +kernel
theorem dL_law_728 : decode cL_law 728 = .ok (.lcmp, 1) := by decide +kernel
theorem dL_law_729 : decode cL_law 729 = .ok (.ifCond .eq 345, 3) := by decide +kernel
theorem dL_law_732 : decode cL_law 732 = .ok (.iconst 0, 1) := by decide +kernel
theorem dL_law_733 : decode cL_law 733 = .ok (.ireturn, 1) := by decide +kernel
theorem dL_law_734 : decode cL_law 734 = .ok (.aload_n 1, 1) := by decide +kernel
theorem dL_law_735 : decode cL_law 735 = .ok (.aload_n 0, 1) := by decide +kernel
theorem dL_law_736 : decode cL_law 736 = .ok (.iload_n 3, 1) := by decide +kernel
theorem dL_law_737 : decode cL_law 737 = .ok (.iconst 1, 1) := by decide +kernel
theorem dL_law_738 : decode cL_law 738 = .ok (.iadd, 1) := by decide +kernel
theorem dL_law_739 : decode cL_law 739 = .ok (.iaload, 1) := by decide +kernel
theorem dL_law_740 : decode cL_law 740 = .ok (.aload_n 0, 1) := by decide +kernel
theorem dL_law_741 : decode cL_law 741 = .ok (.iload_n 3, 1) := by decide +kernel
theorem dL_law_742 : decode cL_law 742 = .ok (.iconst 2, 1) := by decide +kernel
theorem dL_law_743 : decode cL_law 743 = .ok (.iadd, 1) := by decide +kernel
theorem dL_law_744 : decode cL_law 744 = .ok (.iaload, 1) := by decide +kernel
theorem dL_law_745 : decode cL_law 745 = .ok (.aload_n 0, 1) := by decide +kernel
theorem dL_law_746 : decode cL_law 746 = .ok (.iload_n 3, 1) := by decide +kernel
theorem dL_law_747 : decode cL_law 747 = .ok (.iconst 3, 1) := by decide +kernel
theorem dL_law_748 : decode cL_law 748 = .ok (.iadd, 1) := by decide +kernel
theorem dL_law_749 : decode cL_law 749 = .ok (.iaload, 1) := by decide +kernel
theorem dL_law_750 : decode cL_law 750 = .ok (.aload_n 0, 1) := by decide +kernel
theorem dL_law_751 : decode cL_law 751 = .ok (.iload_n 3, 1) := by decide +kernel
theorem dL_law_752 : decode cL_law 752 = .ok (.iconst 4, 1) := by decide +kernel
theorem dL_law_753 : decode cL_law 753 = .ok (.iadd, 1) := by decide +kernel
theorem dL_law_754 : decode cL_law 754 = .ok (.iaload, 1) := by decide +kernel
theorem dL_law_755 : decode cL_law 755 = .ok (.invokevirtual 93, 3) := by decide +kernel
theorem dL_law_758 : decode cL_law 758 = .ok (.aload_n 2, 1) := by decide +kernel
theorem dL_law_759 : decode cL_law 759 = .ok (.aload_n 0, 1) := by decide +kernel
theorem dL_law_760 : decode cL_law 760 = .ok (.iload_n 3, 1) := by decide +kernel
theorem dL_law_761 : decode cL_law 761 = .ok (.iconst 1, 1) := by decide +kernel
theorem dL_law_762 : decode cL_law 762 = .ok (.iadd, 1) := by decide +kernel
theorem dL_law_763 : decode cL_law 763 = .ok (.iaload, 1) := by decide +kernel
theorem dL_law_764 : decode cL_law 764 = .ok (.aload_n 0, 1) := by decide +kernel
theorem dL_law_765 : decode cL_law 765 = .ok (.iload_n 3, 1) := by decide +kernel
theorem dL_law_766 : decode cL_law 766 = .ok (.iconst 2, 1) := by decide +kernel
theorem dL_law_767 : decode cL_law 767 = .ok (.iadd, 1) := by decide +kernel
theorem dL_law_768 : decode cL_law 768 = .ok (.iaload, 1) := by decide +kernel
theorem dL_law_769 : decode cL_law 769 = .ok (.aload_n 0, 1) := by decide +kernel
theorem dL_law_770 : decode cL_law 770 = .ok (.iload_n 3, 1) := by decide +kernel
theorem dL_law_771 : decode cL_law 771 = .ok (.iconst 3, 1) := by decide +kernel
theorem dL_law_772 : decode cL_law 772 = .ok (.iadd, 1) := by decide +kernel
theorem dL_law_773 : decode cL_law 773 = .ok (.iaload, 1) := by decide +kernel
theorem dL_law_774 : decode cL_law 774 = .ok (.aload_n 0, 1) := by decide +kernel
theorem dL_law_775 : decode cL_law 775 = .ok (.iload_n 3, 1) := by decide +kernel
theorem dL_law_776 : decode cL_law 776 = .ok (.iconst 4, 1) := by decide +kernel
theorem dL_law_777 : decode cL_law 777 = .ok (.iadd, 1) := by decide +kernel
theorem dL_law_778 : decode cL_law 778 = .ok (.iaload, 1) := by decide +kernel
theorem dL_law_779 : decode cL_law 779 = .ok (.invokevirtual 97, 3) := by decide +kernel
theorem dL_law_782 : decode cL_law 782 = .ok (.if_icmp .eq 292, 3) := by decide +kernel
theorem dL_law_785 : decode cL_law 785 = .ok (.iconst 0, 1) := by decide +kernel
theorem dL_law_786 : decode cL_law 786 = .ok (.ireturn, 1) := by decide +kernel
theorem dL_law_787 : decode cL_law 787 = .ok (.aload_n 1, 1) := by decide +kernel
theorem dL_law_788 : decode cL_law 788 = .ok (.aload_n 0, 1) := by decide +kernel
theorem dL_law_789 : decode cL_law 789 = .ok (.iload_n 3, 1) := by decide +kernel
theorem dL_law_790 : decode cL_law 790 = .ok (.iconst 1, 1) := by decide +kernel
theorem dL_law_791 : decode cL_law 791 = .ok (.iadd, 1) := by decide +kernel
theorem dL_law_792 : decode cL_law 792 = .ok (.iaload, 1) := by decide +kernel
theorem dL_law_793 : decode cL_law 793 = .ok (.aload_n 0, 1) := by decide +kernel
theorem dL_law_794 : decode cL_law 794 = .ok (.iload_n 3, 1) := by decide +kernel
theorem dL_law_795 : decode cL_law 795 = .ok (.iconst 2, 1) := by decide +kernel
theorem dL_law_796 : decode cL_law 796 = .ok (.iadd, 1) := by decide +kernel
theorem dL_law_797 : decode cL_law 797 = .ok (.iaload, 1) := by decide +kernel
theorem dL_law_798 : decode cL_law 798 = .ok (.aload_n 0, 1) := by decide +kernel
theorem dL_law_799 : decode cL_law 799 = .ok (.iload_n 3, 1) := by decide +kernel
theorem dL_law_800 : decode cL_law 800 = .ok (.iconst 3, 1) := by decide +kernel
theorem dL_law_801 : decode cL_law 801 = .ok (.iadd, 1) := by decide +kernel
theorem dL_law_802 : decode cL_law 802 = .ok (.iaload, 1) := by decide +kernel
theorem dL_law_803 : decode cL_law 803 = .ok (.invokevirtual 98, 3) := by decide +kernel
theorem dL_law_806 : decode cL_law 806 = .ok (.aload_n 2, 1) := by decide +kernel
theorem dL_law_807 : decode cL_law 807 = .ok (.aload_n 0, 1) := by decide +kernel
theorem dL_law_808 : decode cL_law 808 = .ok (.iload_n 3, 1) := by decide +kernel
theorem dL_law_809 : decode cL_law 809 = .ok (.iconst 1, 1) := by decide +kernel
theorem dL_law_810 : decode cL_law 810 = .ok (.iadd, 1) := by decide +kernel
theorem dL_law_811 : decode cL_law 811 = .ok (.iaload, 1) := by decide +kernel
theorem dL_law_812 : decode cL_law 812 = .ok (.aload_n 0, 1) := by decide +kernel
theorem dL_law_813 : decode cL_law 813 = .ok (.iload_n 3, 1) := by decide +kernel
theorem dL_law_814 : decode cL_law 814 = .ok (.iconst 2, 1) := by decide +kernel
theorem dL_law_815 : decode cL_law 815 = .ok (.iadd, 1) := by decide +kernel
theorem dL_law_816 : decode cL_law 816 = .ok (.iaload, 1) := by decide +kernel
theorem dL_law_817 : decode cL_law 817 = .ok (.aload_n 0, 1) := by decide +kernel
theorem dL_law_818 : decode cL_law 818 = .ok (.iload_n 3, 1) := by decide +kernel
theorem dL_law_819 : decode cL_law 819 = .ok (.iconst 3, 1) := by decide +kernel
theorem dL_law_820 : decode cL_law 820 = .ok (.iadd, 1) := by decide +kernel
theorem dL_law_821 : decode cL_law 821 = .ok (.iaload, 1) := by decide +kernel
theorem dL_law_822 : decode cL_law 822 = .ok (.invokevirtual 101, 3) := by decide +kernel
theorem dL_law_825 : decode cL_law 825 = .ok (.if_icmp .eq 249, 3) := by decide +kernel
theorem dL_law_828 : decode cL_law 828 = .ok (.iconst 0, 1) := by decide +kernel
theorem dL_law_829 : decode cL_law 829 = .ok (.ireturn, 1) := by decide +kernel
theorem dL_law_830 : decode cL_law 830 = .ok (.aload_n 1, 1) := by decide +kernel
theorem dL_law_831 : decode cL_law 831 = .ok (.aload_n 0, 1) := by decide +kernel
theorem dL_law_832 : decode cL_law 832 = .ok (.iload_n 3, 1) := by decide +kernel
theorem dL_law_833 : decode cL_law 833 = .ok (.iconst 1, 1) := by decide +kernel
theorem dL_law_834 : decode cL_law 834 = .ok (.iadd, 1) := by decide +kernel
theorem dL_law_835 : decode cL_law 835 = .ok (.iaload, 1) := by decide +kernel
theorem dL_law_836 : decode cL_law 836 = .ok (.aload_n 0, 1) := by decide +kernel
theorem dL_law_837 : decode cL_law 837 = .ok (.iload_n 3, 1) := by decide +kernel
theorem dL_law_838 : decode cL_law 838 = .ok (.iconst 2, 1) := by decide +kernel
theorem dL_law_839 : decode cL_law 839 = .ok (.iadd, 1) := by decide +kernel
theorem dL_law_840 : decode cL_law 840 = .ok (.iaload, 1) := by decide +kernel
theorem dL_law_841 : decode cL_law 841 = .ok (.invokevirtual 102, 3) := by decide +kernel
theorem dL_law_844 : decode cL_law 844 = .ok (.aload_n 2, 1) := by decide +kernel
theorem dL_law_845 : decode cL_law 845 = .ok (.aload_n 0, 1) := by decide +kernel
theorem dL_law_846 : decode cL_law 846 = .ok (.iload_n 3, 1) := by decide +kernel
theorem dL_law_847 : decode cL_law 847 = .ok (.iconst 1, 1) := by decide +kernel
theorem dL_law_848 : decode cL_law 848 = .ok (.iadd, 1) := by decide +kernel
theorem dL_law_849 : decode cL_law 849 = .ok (.iaload, 1) := by decide +kernel
theorem dL_law_850 : decode cL_law 850 = .ok (.aload_n 0, 1) := by decide +kernel
theorem dL_law_851 : decode cL_law 851 = .ok (.iload_n 3, 1) := by decide +kernel
theorem dL_law_852 : decode cL_law 852 = .ok (.iconst 2, 1) := by decide +kernel
theorem dL_law_853 : decode cL_law 853 = .ok (.iadd, 1) := by decide +kernel
theorem dL_law_854 : decode cL_law 854 = .ok (.iaload, 1) := by decide +kernel
theorem dL_law_855 : decode cL_law 855 = .ok (.invokevirtual 105, 3) := by decide +kernel
theorem dL_law_858 : decode cL_law 858 = .ok (.if_icmp .eq 216, 3) := by decide +kernel
theorem dL_law_861 : decode cL_law 861 = .ok (.iconst 0, 1) := by decide +kernel
theorem dL_law_862 : decode cL_law 862 = .ok (.ireturn, 1) := by decide +kernel
theorem dL_law_863 : decode cL_law 863 = .ok (.aload_n 1, 1) := by decide +kernel
theorem dL_law_864 : decode cL_law 864 = .ok (.aload_n 0, 1) := by decide +kernel
theorem dL_law_865 : decode cL_law 865 = .ok (.iload_n 3, 1) := by decide +kernel
theorem dL_law_866 : decode cL_law 866 = .ok (.iconst 1, 1) := by decide +kernel
theorem dL_law_867 : decode cL_law 867 = .ok (.iadd, 1) := by decide +kernel
theorem dL_law_868 : decode cL_law 868 = .ok (.iaload, 1) := by decide +kernel
theorem dL_law_869 : decode cL_law 869 = .ok (.invokevirtual 106, 3) := by decide +kernel
theorem dL_law_872 : decode cL_law 872 = .ok (.aload_n 2, 1) := by decide +kernel
theorem dL_law_873 : decode cL_law 873 = .ok (.aload_n 0, 1) := by decide +kernel
theorem dL_law_874 : decode cL_law 874 = .ok (.iload_n 3, 1) := by decide +kernel
theorem dL_law_875 : decode cL_law 875 = .ok (.iconst 1, 1) := by decide +kernel
theorem dL_law_876 : decode cL_law 876 = .ok (.iadd, 1) := by decide +kernel
theorem dL_law_877 : decode cL_law 877 = .ok (.iaload, 1) := by decide +kernel
theorem dL_law_878 : decode cL_law 878 = .ok (.invokevirtual 109, 3) := by decide +kernel
theorem dL_law_881 : decode cL_law 881 = .ok (.if_icmp .eq 193, 3) := by decide +kernel
theorem dL_law_884 : decode cL_law 884 = .ok (.iconst 0, 1) := by decide +kernel
theorem dL_law_885 : decode cL_law 885 = .ok (.ireturn, 1) := by decide +kernel
theorem dL_law_886 : decode cL_law 886 = .ok (.aload_n 1, 1) := by decide +kernel
theorem dL_law_887 : decode cL_law 887 = .ok (.aload_n 0, 1) := by decide +kernel
theorem dL_law_888 : decode cL_law 888 = .ok (.iload_n 3, 1) := by decide +kernel
theorem dL_law_889 : decode cL_law 889 = .ok (.iconst 1, 1) := by decide +kernel
theorem dL_law_890 : decode cL_law 890 = .ok (.iadd, 1) := by decide +kernel
theorem dL_law_891 : decode cL_law 891 = .ok (.iaload, 1) := by decide +kernel
theorem dL_law_892 : decode cL_law 892 = .ok (.invokevirtual 110, 3) := by decide +kernel
theorem dL_law_895 : decode cL_law 895 = .ok (.aload_n 2, 1) := by decide +kernel
theorem dL_law_896 : decode cL_law 896 = .ok (.aload_n 0, 1) := by decide +kernel
theorem dL_law_897 : decode cL_law 897 = .ok (.iload_n 3, 1) := by decide +kernel
theorem dL_law_898 : decode cL_law 898 = .ok (.iconst 1, 1) := by decide +kernel
theorem dL_law_899 : decode cL_law 899 = .ok (.iadd, 1) := by decide +kernel
theorem dL_law_900 : decode cL_law 900 = .ok (.iaload, 1) := by decide +kernel
theorem dL_law_901 : decode cL_law 901 = .ok (.invokevirtual 113, 3) := by decide +kernel
theorem dL_law_904 : decode cL_law 904 = .ok (.if_icmp .eq 170, 3) := by decide +kernel
theorem dL_law_907 : decode cL_law 907 = .ok (.iconst 0, 1) := by decide +kernel
theorem dL_law_908 : decode cL_law 908 = .ok (.ireturn, 1) := by decide +kernel
theorem dL_law_909 : decode cL_law 909 = .ok (.aload_n 1, 1) := by decide +kernel
theorem dL_law_910 : decode cL_law 910 = .ok (.aload_n 0, 1) := by decide +kernel
theorem dL_law_911 : decode cL_law 911 = .ok (.iload_n 3, 1) := by decide +kernel
theorem dL_law_912 : decode cL_law 912 = .ok (.iconst 1, 1) := by decide +kernel
theorem dL_law_913 : decode cL_law 913 = .ok (.iadd, 1) := by decide +kernel
theorem dL_law_914 : decode cL_law 914 = .ok (.iaload, 1) := by decide +kernel
theorem dL_law_915 : decode cL_law 915 = .ok (.aload_n 0, 1) := by decide +kernel
theorem dL_law_916 : decode cL_law 916 = .ok (.iload_n 3, 1) := by decide +kernel
theorem dL_law_917 : decode cL_law 917 = .ok (.iconst 2, 1) := by decide +kernel
theorem dL_law_918 : decode cL_law 918 = .ok (.iadd, 1) := by decide +kernel
theorem dL_law_919 : decode cL_law 919 = .ok (.iaload, 1) := by decide +kernel
theorem dL_law_920 : decode cL_law 920 = .ok (.aload_n 0, 1) := by decide +kernel
theorem dL_law_921 : decode cL_law 921 = .ok (.iload_n 3, 1) := by decide +kernel
theorem dL_law_922 : decode cL_law 922 = .ok (.iconst 3, 1) := by decide +kernel
theorem dL_law_923 : decode cL_law 923 = .ok (.iadd, 1) := by decide +kernel
theorem dL_law_924 : decode cL_law 924 = .ok (.iaload, 1) := by decide +kernel
theorem dL_law_925 : decode cL_law 925 = .ok (.aload_n 0, 1) := by decide +kernel
theorem dL_law_926 : decode cL_law 926 = .ok (.iload_n 3, 1) := by decide +kernel
theorem dL_law_927 : decode cL_law 927 = .ok (.iconst 4, 1) := by decide +kernel
theorem dL_law_928 : decode cL_law 928 = .ok (.iadd, 1) := by decide +kernel
theorem dL_law_929 : decode cL_law 929 = .ok (.iaload, 1) := by decide +kernel
theorem dL_law_930 : decode cL_law 930 = .ok (.invokevirtual 114, 3) := by decide +kernel
theorem dL_law_933 : decode cL_law 933 = .ok (.aload_n 2, 1) := by decide +kernel
theorem dL_law_934 : decode cL_law 934 = .ok (.aload_n 0, 1) := by decide +kernel
theorem dL_law_935 : decode cL_law 935 = .ok (.iload_n 3, 1) := by decide +kernel
theorem dL_law_936 : decode cL_law 936 = .ok (.iconst 1, 1) := by decide +kernel
theorem dL_law_937 : decode cL_law 937 = .ok (.iadd, 1) := by decide +kernel
theorem dL_law_938 : decode cL_law 938 = .ok (.iaload, 1) := by decide +kernel
theorem dL_law_939 : decode cL_law 939 = .ok (.aload_n 0, 1) := by decide +kernel
theorem dL_law_940 : decode cL_law 940 = .ok (.iload_n 3, 1) := by decide +kernel
theorem dL_law_941 : decode cL_law 941 = .ok (.iconst 2, 1) := by decide +kernel
theorem dL_law_942 : decode cL_law 942 = .ok (.iadd, 1) := by decide +kernel
theorem dL_law_943 : decode cL_law 943 = .ok (.iaload, 1) := by decide +kernel
theorem dL_law_944 : decode cL_law 944 = .ok (.aload_n 0, 1) := by decide +kernel
theorem dL_law_945 : decode cL_law 945 = .ok (.iload_n 3, 1) := by decide +kernel
theorem dL_law_946 : decode cL_law 946 = .ok (.iconst 3, 1) := by decide +kernel
theorem dL_law_947 : decode cL_law 947 = .ok (.iadd, 1) := by decide +kernel
theorem dL_law_948 : decode cL_law 948 = .ok (.iaload, 1) := by decide +kernel
theorem dL_law_949 : decode cL_law 949 = .ok (.aload_n 0, 1) := by decide +kernel
theorem dL_law_950 : decode cL_law 950 = .ok (.iload_n 3, 1) := by decide +kernel
theorem dL_law_951 : decode cL_law 951 = .ok (.iconst 4, 1) := by decide +kernel
theorem dL_law_952 : decode cL_law 952 = .ok (.iadd, 1) := by decide +kernel
theorem dL_law_953 : decode cL_law 953 = .ok (.iaload, 1) := by decide +kernel
theorem dL_law_954 : decode cL_law 954 = .ok (.invokevirtual 117, 3) := by decide +kernel
theorem dL_law_957 : decode cL_law 957 = .ok (.if_icmp .eq 117, 3) := by decide +kernel
theorem dL_law_960 : decode cL_law 960 = .ok (.iconst 0, 1) := by decide +kernel
theorem dL_law_961 : decode cL_law 961 = .ok (.ireturn, 1) := by decide +kernel
theorem dL_law_962 : decode cL_law 962 = .ok (.aload_n 1, 1) := by decide +kernel
theorem dL_law_963 : decode cL_law 963 = .ok (.aload_n 0, 1) := by decide +kernel
theorem dL_law_964 : decode cL_law 964 = .ok (.iload_n 3, 1) := by decide +kernel
theorem dL_law_965 : decode cL_law 965 = .ok (.iconst 1, 1) := by decide +kernel
theorem dL_law_966 : decode cL_law 966 = .ok (.iadd, 1) := by decide +kernel
theorem dL_law_967 : decode cL_law 967 = .ok (.iaload, 1) := by decide +kernel
theorem dL_law_968 : decode cL_law 968 = .ok (.aload_n 0, 1) := by decide +kernel
theorem dL_law_969 : decode cL_law 969 = .ok (.iload_n 3, 1) := by decide +kernel
theorem dL_law_970 : decode cL_law 970 = .ok (.iconst 2, 1) := by decide +kernel
theorem dL_law_971 : decode cL_law 971 = .ok (.iadd, 1) := by decide +kernel
theorem dL_law_972 : decode cL_law 972 = .ok (.iaload, 1) := by decide +kernel
theorem dL_law_973 : decode cL_law 973 = .ok (.invokevirtual 118, 3) := by decide +kernel
theorem dL_law_976 : decode cL_law 976 = .ok (.aload_n 2, 1) := by decide +kernel
theorem dL_law_977 : decode cL_law 977 = .ok (.aload_n 0, 1) := by decide +kernel
theorem dL_law_978 : decode cL_law 978 = .ok (.iload_n 3, 1) := by decide +kernel
theorem dL_law_979 : decode cL_law 979 = .ok (.iconst 1, 1) := by decide +kernel
theorem dL_law_980 : decode cL_law 980 = .ok (.iadd, 1) := by decide +kernel
theorem dL_law_981 : decode cL_law 981 = .ok (.iaload, 1) := by decide +kernel
theorem dL_law_982 : decode cL_law 982 = .ok (.aload_n 0, 1) := by decide +kernel
theorem dL_law_983 : decode cL_law 983 = .ok (.iload_n 3, 1) := by decide +kernel
theorem dL_law_984 : decode cL_law 984 = .ok (.iconst 2, 1) := by decide +kernel
theorem dL_law_985 : decode cL_law 985 = .ok (.iadd, 1) := by decide +kernel
theorem dL_law_986 : decode cL_law 986 = .ok (.iaload, 1) := by decide +kernel
theorem dL_law_987 : decode cL_law 987 = .ok (.invokevirtual 121, 3) := by decide +kernel
theorem dL_law_990 : decode cL_law 990 = .ok (.if_icmp .eq 84, 3) := by decide +kernel
theorem dL_law_993 : decode cL_law 993 = .ok (.iconst 0, 1) := by decide +kernel
theorem dL_law_994 : decode cL_law 994 = .ok (.ireturn, 1) := by decide +kernel
theorem dL_law_995 : decode cL_law 995 = .ok (.aload_n 1, 1) := by decide +kernel
theorem dL_law_996 : decode cL_law 996 = .ok (.aload_n 0, 1) := by decide +kernel
theorem dL_law_997 : decode cL_law 997 = .ok (.iload_n 3, 1) := by decide +kernel
theorem dL_law_998 : decode cL_law 998 = .ok (.iconst 1, 1) := by decide +kernel
theorem dL_law_999 : decode cL_law 999 = .ok (.iadd, 1) := by decide +kernel
theorem dL_law_1000 : decode cL_law 1000 = .ok (.iaload, 1) := by decide +kernel
theorem dL_law_1001 : decode cL_law 1001 = .ok (.aload_n 0, 1) := by decide +kernel
theorem dL_law_1002 : decode cL_law 1002 = .ok (.iload_n 3, 1) := by decide +kernel
theorem dL_law_1003 : decode cL_law 1003 = .ok (.iconst 2, 1) := by decide +kernel
theorem dL_law_1004 : decode cL_law 1004 = .ok (.iadd, 1) := by decide +kernel
theorem dL_law_1005 : decode cL_law 1005 = .ok (.iaload, 1) := by decide +kernel
theorem dL_law_1006 : decode cL_law 1006 = .ok (.invokevirtual 122, 3) := by decide +kernel
theorem dL_law_1009 : decode cL_law 1009 = .ok (.aload_n 2, 1) := by decide +kernel
theorem dL_law_1010 : decode cL_law 1010 = .ok (.aload_n 0, 1) := by decide +kernel
theorem dL_law_1011 : decode cL_law 1011 = .ok (.iload_n 3, 1) := by decide +kernel
theorem dL_law_1012 : decode cL_law 1012 = .ok (.iconst 1, 1) := by decide +kernel
theorem dL_law_1013 : decode cL_law 1013 = .ok (.iadd, 1) := by decide +kernel
theorem dL_law_1014 : decode cL_law 1014 = .ok (.iaload, 1) := by decide +kernel
theorem dL_law_1015 : decode cL_law 1015 = .ok (.aload_n 0, 1) := by decide +kernel
theorem dL_law_1016 : decode cL_law 1016 = .ok (.iload_n 3, 1) := by decide +kernel
theorem dL_law_1017 : decode cL_law 1017 = .ok (.iconst 2, 1) := by decide +kernel
theorem dL_law_1018 : decode cL_law 1018 = .ok (.iadd, 1) := by decide +kernel
theorem dL_law_1019 : decode cL_law 1019 = .ok (.iaload, 1) := by decide +kernel
theorem dL_law_1020 : decode cL_law 1020 = .ok (.invokevirtual 125, 3) := by decide +kernel
theorem dL_law_1023 : decode cL_law 1023 = .ok (.if_icmp .eq 51, 3) := by decide +kernel
theorem dL_law_1026 : decode cL_law 1026 = .ok (.iconst 0, 1) := by decide +kernel
theorem dL_law_1027 : decode cL_law 1027 = .ok (.ireturn, 1) := by decide +kernel
theorem dL_law_1028 : decode cL_law 1028 = .ok (.aload_n 1, 1) := by decide +kernel
theorem dL_law_1029 : decode cL_law 1029 = .ok (.aload_n 0, 1) := by decide +kernel
theorem dL_law_1030 : decode cL_law 1030 = .ok (.iload_n 3, 1) := by decide +kernel
theorem dL_law_1031 : decode cL_law 1031 = .ok (.iconst 1, 1) := by decide +kernel
theorem dL_law_1032 : decode cL_law 1032 = .ok (.iadd, 1) := by decide +kernel
theorem dL_law_1033 : decode cL_law 1033 = .ok (.iaload, 1) := by decide +kernel
theorem dL_law_1034 : decode cL_law 1034 = .ok (.invokevirtual 126, 3) := by decide +kernel
theorem dL_law_1037 : decode cL_law 1037 = .ok (.aload_n 2, 1) := by decide +kernel
theorem dL_law_1038 : decode cL_law 1038 = .ok (.aload_n 0, 1) := by decide +kernel
theorem dL_law_1039 : decode cL_law 1039 = .ok (.iload_n 3, 1) := by decide +kernel
theorem dL_law_1040 : decode cL_law 1040 = .ok (.iconst 1, 1) := by decide +kernel
theorem dL_law_1041 : decode cL_law 1041 = .ok (.iadd, 1) := by decide +kernel
theorem dL_law_1042 : decode cL_law 1042 = .ok (.iaload, 1) := by decide +kernel
theorem dL_law_1043 : decode cL_law 1043 = .ok (.invokevirtual 129, 3) := by decide +kernel
theorem dL_law_1046 : decode cL_law 1046 = .ok (.if_icmp .eq 28, 3) := by decide +kernel
theorem dL_law_1049 : decode cL_law 1049 = .ok (.iconst 0, 1) := by decide +kernel
theorem dL_law_1050 : decode cL_law 1050 = .ok (.ireturn, 1) := by decide +kernel
theorem dL_law_1051 : decode cL_law 1051 = .ok (.aload_n 1, 1) := by decide +kernel
theorem dL_law_1052 : decode cL_law 1052 = .ok (.aload_n 0, 1) := by decide +kernel
theorem dL_law_1053 : decode cL_law 1053 = .ok (.iload_n 3, 1) := by decide +kernel
theorem dL_law_1054 : decode cL_law 1054 = .ok (.iconst 1, 1) := by decide +kernel
theorem dL_law_1055 : decode cL_law 1055 = .ok (.iadd, 1) := by decide +kernel
theorem dL_law_1056 : decode cL_law 1056 = .ok (.iaload, 1) := by decide +kernel
theorem dL_law_1057 : decode cL_law 1057 = .ok (.invokevirtual 130, 3) := by decide +kernel
theorem dL_law_1060 : decode cL_law 1060 = .ok (.aload_n 2, 1) := by decide +kernel
theorem dL_law_1061 : decode cL_law 1061 = .ok (.aload_n 0, 1) := by decide +kernel
theorem dL_law_1062 : decode cL_law 1062 = .ok (.iload_n 3, 1) := by decide +kernel
theorem dL_law_1063 : decode cL_law 1063 = .ok (.iconst 1, 1) := by decide +kernel
theorem dL_law_1064 : decode cL_law 1064 = .ok (.iadd, 1) := by decide +kernel
theorem dL_law_1065 : decode cL_law 1065 = .ok (.iaload, 1) := by decide +kernel
theorem dL_law_1066 : decode cL_law 1066 = .ok (.invokevirtual 133, 3) := by decide +kernel
theorem dL_law_1069 : decode cL_law 1069 = .ok (.if_icmp .eq 5, 3) := by decide +kernel
theorem dL_law_1072 : decode cL_law 1072 = .ok (.iconst 0, 1) := by decide +kernel
theorem dL_law_1073 : decode cL_law 1073 = .ok (.ireturn, 1) := by decide +kernel
theorem dL_law_1074 : decode cL_law 1074 = .ok (.iinc 3 8, 3) := by decide +kernel
theorem dL_law_1077 : decode cL_law 1077 = .ok (.goto (-1059), 3) := by decide +kernel
theorem dL_law_1080 : decode cL_law 1080 = .ok (.iconst 1, 1) := by decide +kernel
theorem dL_law_1081 : decode cL_law 1081 = .ok (.ireturn, 1) := by decide +kernel
