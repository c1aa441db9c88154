theorem dX10_layVoltage_70 : decode cX10_layVoltage 70 = .ok (.ineg, 1) := by decide +kernel
theorem dX10_layVoltage_71 : decode cX10_layVoltage 71 = .ok (.i2l, 1) := by decide +kernel
theorem dX10_layVoltage_72 : decode cX10_layVoltage 72 = .ok (.aload_n 0, 1) := by decide +kernel
theorem dX10_layVoltage_73 : decode cX10_layVoltage 73 = .ok (.getfield 58, 3) := by decide +kernel
theorem dX10_layVoltage_76 : decode cX10_layVoltage 76 = .ok (.iconst 2, 1) := by decide +kernel
theorem dX10_layVoltage_77 : decode cX10_layVoltage 77 = .ok (.laload, 1) := by decide +kernel
theorem dX10_layVoltage_78 : decode cX10_layVoltage 78 = .ok (.lmul, 1) := by decide +kernel
theorem dX10_layVoltage_79 : decode cX10_layVoltage 79 = .ok (.lastore, 1) := by decide +kernel
theorem dX10_layVoltage_80 : decode cX10_layVoltage 80 = .ok (.return_, 1) := by decide +kernel
theorem dX10_layPhases_0 : decode cX10_layPhases 0 = .ok (.aload_n 0, 1) := by decide +kernel
theorem dX10_layPhases_1 : decode cX10_layPhases 1 = .ok (.getfield 61, 3) := by decide +kernel
theorem dX10_layPhases_4 : decode cX10_layPhases 4 = .ok (.iconst 0, 1) := by decide +kernel
theorem dX10_layPhases_5 : decode cX10_layPhases 5 = .ok (.aload_n 0, 1) := by decide +kernel
theorem dX10_layPhases_6 : decode cX10_layPhases 6 = .ok (.getfield 58, 3) := by decide +kernel
theorem dX10_layPhases_9 : decode cX10_layPhases 9 = .ok (.iconst 0, 1) := by decide +kernel
theorem dX10_layPhases_10 : decode cX10_layPhases 10 = .ok (.laload, 1) := by decide +kernel
theorem dX10_layPhases_11 : decode cX10_layPhases 11 = .ok (.aload_n 0, 1) := by decide +kernel
theorem dX10_layPhases_12 : decode cX10_layPhases 12 = .ok (.getfield 58, 3) := by decide +kernel
theorem dX10_layPhases_15 : decode cX10_layPhases 15 = .ok (.iconst 1, 1) := by decide +kernel
theorem dX10_layPhases_16 : decode cX10_layPhases 16 = .ok (.laload, 1) := by decide +kernel
theorem dX10_layPhases_17 : decode cX10_layPhases 17 = .ok (.ladd, 1) := by decide +kernel
theorem dX10_layPhases_18 : decode cX10_layPhases 18 = .ok (.aload_n 0, 1) := by decide +kernel
theorem dX10_layPhases_19 : decode cX10_layPhases 19 = .ok (.getfield 58, 3) := by decide +kernel
theorem dX10_layPhases_22 : decode cX10_layPhases 22 = .ok (.iconst 2, 1) := by decide +kernel
theorem dX10_layPhases_23 : decode cX10_layPhases 23 = .ok (.laload, 1) := by decide +kernel
theorem dX10_layPhases_24 : decode cX10_layPhases 24 = .ok (.ladd, 1) := by decide +kernel
theorem dX10_layPhases_25 : decode cX10_layPhases 25 = .ok (.lastore, 1) := by decide +kernel
theorem dX10_layPhases_26 : decode cX10_layPhases 26 = .ok (.aload_n 0, 1) := by decide +kernel
theorem dX10_layPhases_27 : decode cX10_layPhases 27 = .ok (.getfield 61, 3) := by decide +kernel
theorem dX10_layPhases_30 : decode cX10_layPhases 30 = .ok (.iconst 1, 1) := by decide +kernel
theorem dX10_layPhases_31 : decode cX10_layPhases 31 = .ok (.lconst 0, 1) := by decide +kernel
theorem dX10_layPhases_32 : decode cX10_layPhases 32 = .ok (.lastore, 1) := by decide +kernel
theorem dX10_layPhases_33 : decode cX10_layPhases 33 = .ok (.aload_n 0, 1) := by decide +kernel
theorem dX10_layPhases_34 : decode cX10_layPhases 34 = .ok (.getfield 61, 3) := by decide +kernel
theorem dX10_layPhases_37 : decode cX10_layPhases 37 = .ok (.iconst 2, 1) := by decide +kernel
theorem dX10_layPhases_38 : decode cX10_layPhases 38 = .ok (.aload_n 0, 1) := by decide +kernel
theorem dX10_layPhases_39 : decode cX10_layPhases 39 = .ok (.getfield 58, 3) := by decide +kernel
theorem dX10_layPhases_42 : decode cX10_layPhases 42 = .ok (.iconst 0, 1) := by decide +kernel
theorem dX10_layPhases_43 : decode cX10_layPhases 43 = .ok (.laload, 1) := by decide +kernel
theorem dX10_layPhases_44 : decode cX10_layPhases 44 = .ok (.aload_n 0, 1) := by decide +kernel
theorem dX10_layPhases_45 : decode cX10_layPhases 45 = .ok (.getfield 58, 3) := by decide +kernel
theorem dX10_layPhases_48 : decode cX10_layPhases 48 = .ok (.iconst 1, 1) := by decide +kernel
theorem dX10_layPhases_49 : decode cX10_layPhases 49 = .ok (.laload, 1) := by decide +kernel
theorem dX10_layPhases_50 : decode cX10_layPhases 50 = .ok (.lsub, 1) := by decide +kernel
theorem dX10_layPhases_51 : decode cX10_layPhases 51 = .ok (.lastore, 1) := by decide +kernel
theorem dX10_layPhases_52 : decode cX10_layPhases 52 = .ok (.aload_n 0, 1) := by decide +kernel
theorem dX10_layPhases_53 : decode cX10_layPhases 53 = .ok (.getfield 61, 3) := by decide +kernel
theorem dX10_layPhases_56 : decode cX10_layPhases 56 = .ok (.iconst 3, 1) := by decide +kernel
theorem dX10_layPhases_57 : decode cX10_layPhases 57 = .ok (.aload_n 0, 1) := by decide +kernel
theorem dX10_layPhases_58 : decode cX10_layPhases 58 = .ok (.getfield 58, 3) := by decide +kernel
theorem dX10_layPhases_61 : decode cX10_layPhases 61 = .ok (.iconst 2, 1) := by decide +kernel
theorem dX10_layPhases_62 : decode cX10_layPhases 62 = .ok (.laload, 1) := by decide +kernel
theorem dX10_layPhases_63 : decode cX10_layPhases 63 = .ok (.aload_n 0, 1) := by decide +kernel
theorem dX10_layPhases_64 : decode cX10_layPhases 64 = .ok (.getfield 58, 3) := by decide +kernel
theorem dX10_layPhases_67 : decode cX10_layPhases 67 = .ok (.iconst 1, 1) := by decide +kernel
theorem dX10_layPhases_68 : decode cX10_layPhases 68 = .ok (.laload, 1) := by decide +kernel
theorem dX10_layPhases_69 : decode cX10_layPhases 69 = .ok (.lsub, 1) := by decide +kernel
theorem dX10_layPhases_70 : decode cX10_layPhases 70 = .ok (.lastore, 1) := by decide +kernel
theorem dX10_layPhases_71 : decode cX10_layPhases 71 = .ok (.aload_n 0, 1) := by decide +kernel
theorem dX10_layPhases_72 : decode cX10_layPhases 72 = .ok (.getfield 61, 3) := by decide +kernel
theorem dX10_layPhases_75 : decode cX10_layPhases 75 = .ok (.iconst 4, 1) := by decide +kernel
theorem dX10_layPhases_76 : decode cX10_layPhases 76 = .ok (.aload_n 0, 1) := by decide +kernel
theorem dX10_layPhases_77 : decode cX10_layPhases 77 = .ok (.getfield 58, 3) := by decide +kernel
theorem dX10_layPhases_80 : decode cX10_layPhases 80 = .ok (.iconst 0, 1) := by decide +kernel
theorem dX10_layPhases_81 : decode cX10_layPhases 81 = .ok (.laload, 1) := by decide +kernel
theorem dX10_layPhases_82 : decode cX10_layPhases 82 = .ok (.aload_n 0, 1) := by decide +kernel
theorem dX10_layPhases_83 : decode cX10_layPhases 83 = .ok (.getfield 58, 3) := by decide +kernel
theorem dX10_layPhases_86 : decode cX10_layPhases 86 = .ok (.iconst 2, 1) := by decide +kernel
theorem dX10_layPhases_87 : decode cX10_layPhases 87 = .ok (.laload, 1) := by decide +kernel
theorem dX10_layPhases_88 : decode cX10_layPhases 88 = .ok (.lsub, 1) := by decide +kernel
theorem dX10_layPhases_89 : decode cX10_layPhases 89 = .ok (.lastore, 1) := by decide +kernel
theorem dX10_layPhases_90 : decode cX10_layPhases 90 = .ok (.aload_n 0, 1) := by decide +kernel
theorem dX10_layPhases_91 : decode cX10_layPhases 91 = .ok (.getfield 61, 3) := by decide +kernel
theorem dX10_layPhases_94 : decode cX10_layPhases 94 = .ok (.iconst 5, 1) := by decide +kernel
theorem dX10_layPhases_95 : decode cX10_layPhases 95 = .ok (.aload_n 0, 1) := by decide +kernel
theorem dX10_layPhases_96 : decode cX10_layPhases 96 = .ok (.getfield 58, 3) := by decide +kernel
theorem dX10_layPhases_99 : decode cX10_layPhases 99 = .ok (.iconst 1, 1) := by decide +kernel
theorem dX10_layPhases_100 : decode cX10_layPhases 100 = .ok (.laload, 1) := by decide +kernel
theorem dX10_layPhases_101 : decode cX10_layPhases 101 = .ok (.aload_n 0, 1) := by decide +kernel
theorem dX10_layPhases_102 : decode cX10_layPhases 102 = .ok (.getfield 58, 3) := by decide +kernel
theorem dX10_layPhases_105 : decode cX10_layPhases 105 = .ok (.iconst 2, 1) := by decide +kernel
theorem dX10_layPhases_106 : decode cX10_layPhases 106 = .ok (.laload, 1) := by decide +kernel
theorem dX10_layPhases_107 : decode cX10_layPhases 107 = .ok (.lsub, 1) := by decide +kernel
theorem dX10_layPhases_108 : decode cX10_layPhases 108 = .ok (.lastore, 1) := by decide +kernel
theorem dX10_layPhases_109 : decode cX10_layPhases 109 = .ok (.return_, 1) := by decide +kernel
theorem dX10_normOf_0 : decode cX10_normOf 0 = .ok (.aload_n 0, 1) := by decide +kernel
theorem dX10_normOf_1 : decode cX10_normOf 1 = .ok (.getfield 61, 3) := by decide +kernel
theorem dX10_normOf_4 : decode cX10_normOf 4 = .ok (.iconst 2, 1) := by decide +kernel
theorem dX10_normOf_5 : decode cX10_normOf 5 = .ok (.iload_n 1, 1) := by decide +kernel
theorem dX10_normOf_6 : decode cX10_normOf 6 = .ok (.imul, 1) := by decide +kernel
theorem dX10_normOf_7 : decode cX10_normOf 7 = .ok (.laload, 1) := by decide +kernel
theorem dX10_normOf_8 : decode cX10_normOf 8 = .ok (.lstore_n 2, 1) := by decide +kernel
theorem dX10_normOf_9 : decode cX10_normOf 9 = .ok (.aload_n 0, 1) := by decide +kernel
theorem dX10_normOf_10 : decode cX10_normOf 10 = .ok (.getfield 61, 3) := by decide +kernel
theorem dX10_normOf_13 : decode cX10_normOf 13 = .ok (.iconst 2, 1) := by decide +kernel
theorem dX10_normOf_14 : decode cX10_normOf 14 = .ok (.iload_n 1, 1) := by decide +kernel
theorem dX10_normOf_15 : decode cX10_normOf 15 = .ok (.imul, 1) := by decide +kernel
theorem dX10_normOf_16 : decode cX10_normOf 16 = .ok (.iconst 1, 1) := by decide +kernel
theorem dX10_normOf_17 : decode cX10_normOf 17 = .ok (.iadd, 1) := by decide +kernel
theorem dX10_normOf_18 : decode cX10_normOf 18 = .ok (.laload, 1) := by decide +kernel
theorem dX10_normOf_19 : decode cX10_normOf 19 = .ok (.lstore 4, 2) := by decide +kernel
theorem dX10_normOf_21 : decode cX10_normOf 21 = .ok (.lload_n 2, 1) := by decide +kernel
theorem dX10_normOf_22 : decode cX10_normOf 22 = .ok (.lload_n 2, 1) := by decide +kernel
theorem dX10_normOf_23 : decode cX10_normOf 23 = .ok (.lmul, 1) := by decide +kernel
theorem dX10_normOf_24 : decode cX10_normOf 24 = .ok (.lload_n 2, 1) := by decide +kernel
theorem dX10_normOf_25 : decode cX10_normOf 25 = .ok (.lload 4, 2) := by decide +kernel
theorem dX10_normOf_27 : decode cX10_normOf 27 = .ok (.lmul, 1) := by decide +kernel
theorem dX10_normOf_28 : decode cX10_normOf 28 = .ok (.lsub, 1) := by decide +kernel
theorem dX10_normOf_29 : decode cX10_normOf 29 = .ok (.lload 4, 2) := by decide +kernel
theorem dX10_normOf_31 : decode cX10_normOf 31 = .ok (.lload 4, 2) := by decide +kernel
theorem dX10_normOf_33 : decode cX10_normOf 33 = .ok (.lmul, 1) := by decide +kernel
theorem dX10_normOf_34 : decode cX10_normOf 34 = .ok (.ladd, 1) := by decide +kernel
theorem dX10_normOf_35 : decode cX10_normOf 35 = .ok (.lreturn, 1) := by decide +kernel
set_option maxRecDepth 20000 in
theorem ggX10_isSort_X10_in : GoodIn wsX10_isSort wsX10_in := goodIn_r _ [6] (by decide +kernel) (by decide +kernel)
set_option maxRecDepth 20000 in
theorem gX10_isSort_X10_in : GoodIn wsX10_isSort (va_wsS RX10 66 yX10_in wsX10_in) := goodIn_app (goodIn_of _ (by decide +kernel)) ggX10_isSort_X10_in
theorem dX10_isSort_0 : decode cX10_isSort 0 = .ok (.iload_n 0, 1) := by decide +kernel
theorem dX10_isSort_1 : decode cX10_isSort 1 = .ok (.i2l, 1) := by decide +kernel
theorem dX10_isSort_2 : decode cX10_isSort 2 = .ok (.lconst 0, 1) := by decide +kernel
theorem dX10_isSort_3 : decode cX10_isSort 3 = .ok (.ldc2_w 188, 3) := by decide +kernel
theorem dX10_isSort_6 : decode cX10_isSort 6 = .ok (.invokestatic 66, 3) := by decide +kernel
theorem dX10_isSort_9 : decode cX10_isSort 9 = .ok (.ifCond .eq 19, 3) := by decide +kernel
theorem dX10_isSort_12 : decode cX10_isSort 12 = .ok (.iload_n 1, 1) := by decide +kernel
theorem dX10_isSort_13 : decode cX10_isSort 13 = .ok (.i2l, 1) := by decide +kernel
theorem dX10_isSort_14 : decode cX10_isSort 14 = .ok (.lconst 0, 1) := by decide +kernel
theorem dX10_isSort_15 : decode cX10_isSort 15 = .ok (.ldc2_w 250, 3) := by decide +kernel
theorem dX10_isSort_18 : decode cX10_isSort 18 = .ok (.invokestatic 66, 3) := by decide +kernel
theorem dX10_isSort_21 : decode cX10_isSort 21 = .ok (.ifCond .eq 7, 3) := by decide +kernel
theorem dX10_isSort_24 : decode cX10_isSort 24 = .ok (.iconst 1, 1) := by decide +kernel
theorem dX10_isSort_25 : decode cX10_isSort 25 = .ok (.goto 4, 3) := by decide +kernel
theorem dX10_isSort_28 : decode cX10_isSort 28 = .ok (.iconst 0, 1) := by decide +kernel
theorem dX10_isSort_29 : decode cX10_isSort 29 = .ok (.ireturn, 1) := by decide +kernel
set_option maxRecDepth 20000 in
theorem ggX10_load_X10_isBus : GoodIn wsX10_load wsX10_isBus := goodIn_r _ [10, 11, 12, 13, 9, 14, 54, 55, 56, 57, 58, 59, 60, 61, 62, 63, 64, 65, 66, 67, 68, 69, 70, 71, 72, 73, 74, 75, 76, 77, 78, 79] (by decide +kernel) (by decide +kernel)
set_option maxRecDepth 20000 in
theorem gX10_load_X10_isBus : GoodIn wsX10_load (wsV RX10 142 RX10 yX10_isBus wsX10_isBus) := goodIn_app (goodIn_of _ (by decide +kernel)) ggX10_load_X10_isBus
set_option maxRecDepth 20000 in
theorem ggX10_load_X10_isSort : GoodIn wsX10_load wsX10_isSort := goodIn_r _ [17, 18, 19, 12, 13, 9, 14] (by decide +kernel) (by decide +kernel)
set_option maxRecDepth 20000 in
theorem gX10_load_X10_isSort : GoodIn wsX10_load (va_wsS RX10 252 yX10_isSort wsX10_isSort) := goodIn_app (goodIn_of _ (by decide +kernel)) ggX10_load_X10_isSort
set_option maxRecDepth 20000 in
theorem ggX10_load_X10_layFault : GoodIn wsX10_load wsX10_layFault := goodIn_r _ [23, 18, 24, 25, 3, 26, 27, 28, 9, 29, 30, 31, 54, 55, 56, 57, 58, 59, 60, 61, 62, 63, 64, 65, 66, 67, 68, 69, 70, 71, 72, 73, 74, 75, 76, 77, 78, 79] (by decide +kernel) (by decide +kernel)
set_option maxRecDepth 20000 in
theorem gX10_load_X10_layFault : GoodIn wsX10_load (wsV RX10 255 RX10 yX10_layFault wsX10_layFault) := goodIn_app (goodIn_of _ (by decide +kernel)) ggX10_load_X10_layFault
set_option maxRecDepth 20000 in
theorem ggX10_load_X10_keepPast : GoodIn wsX10_load wsX10_keepPast := goodIn_r _ [35, 36, 37, 38, 39, 40, 41, 9, 42, 54, 55, 56, 57, 58, 59, 60, 61, 62, 63, 64, 65, 66, 67, 68, 69, 70, 71, 72, 73, 74, 75, 76, 77, 78, 79] (by decide +kernel) (by decide +kernel)
set_option maxRecDepth 20000 in
theorem gX10_load_X10_keepPast : GoodIn wsX10_load (wsV RX10 206 RX10 yX10_keepPast wsX10_keepPast) := goodIn_app (goodIn_of _ (by decide +kernel)) ggX10_load_X10_keepPast
set_option maxRecDepth 20000 in
theorem ggX10_load_X10_layPhases : GoodIn wsX10_load wsX10_layPhases := goodIn_r _ [46, 5, 24, 54, 55, 56, 57, 58, 59, 60, 61, 62, 63, 64, 65, 66, 67, 68, 69, 70, 71, 72, 73, 74, 75, 76, 77, 78, 79] (by decide +kernel) (by decide +kernel)
set_option maxRecDepth 20000 in
theorem gX10_load_X10_layPhases : GoodIn wsX10_load (wsV RX10 258 RX10 yX10_layPhases wsX10_layPhases) := goodIn_app (goodIn_of _ (by decide +kernel)) ggX10_load_X10_layPhases
set_option maxRecDepth 20000 in
theorem ggX10_load_X10_lay : GoodIn wsX10_load wsX10_lay := goodIn_r _ [50, 37, 38, 51, 52, 9, 53, 54, 55, 56, 57, 58, 59, 60, 61, 62, 63, 64, 65, 66, 67, 68, 69, 70, 71, 72, 73, 74, 75, 76, 77, 78, 79] (by decide +kernel) (by decide +kernel)
set_option maxRecDepth 20000 in
theorem gX10_load_X10_lay : GoodIn wsX10_load (wsV RX10 158 RX10 yX10_lay wsX10_lay) := goodIn_app (goodIn_of _ (by decide +kernel)) ggX10_load_X10_lay
theorem dX10_load_0 : decode cX10_load 0 = .ok (.aload_n 0, 1) := by decide +kernel
theorem dX10_load_1 : decode cX10_load 1 = .ok (.iload_n 2, 1) := by decide +kernel
theorem dX10_load_2 : decode cX10_load 2 = .ok (.invokevirtual 142, 3) := by decide +kernel
theorem dX10_load_5 : decode cX10_load 5 = .ok (.ifCond .ne 6, 3) := by decide +kernel
theorem dX10_load_8 : decode cX10_load 8 = .ok (.ldc 145, 2) := by decide +kernel
theorem dX10_load_10 : decode cX10_load 10 = .ok (.ireturn, 1) := by decide +kernel
theorem dX10_load_11 : decode cX10_load 11 = .ok (.iload_n 1, 1) := by decide +kernel
theorem dX10_load_12 : decode cX10_load 12 = .ok (.iload_n 3, 1) := by decide +kernel
theorem dX10_load_13 : decode cX10_load 13 = .ok (.invokestatic 252, 3) := by decide +kernel
theorem dX10_load_16 : decode cX10_load 16 = .ok (.ifCond .ne 6, 3) := by decide +kernel
theorem dX10_load_19 : decode cX10_load 19 = .ok (.ldc 70, 2) := by decide +kernel
theorem dX10_load_21 : decode cX10_load 21 = .ok (.ireturn, 1) := by decide +kernel
theorem dX10_load_22 : decode cX10_load 22 = .ok (.aload_n 0, 1) := by decide +kernel
theorem dX10_load_23 : decode cX10_load 23 = .ok (.iload_n 1, 1) := by decide +kernel
theorem dX10_load_24 : decode cX10_load 24 = .ok (.iload_n 2, 1) := by decide +kernel
theorem dX10_load_25 : decode cX10_load 25 = .ok (.iload_n 3, 1) := by decide +kernel
theorem dX10_load_26 : decode cX10_load 26 = .ok (.invokevirtual 255, 3) := by decide +kernel
theorem dX10_load_29 : decode cX10_load 29 = .ok (.aload_n 0, 1) := by decide +kernel
theorem dX10_load_30 : decode cX10_load 30 = .ok (.getfield 243, 3) := by decide +kernel
theorem dX10_load_33 : decode cX10_load 33 = .ok (.lconst 0, 1) := by decide +kernel
theorem dX10_load_34 : decode cX10_load 34 = .ok (.lcmp, 1) := by decide +kernel
theorem dX10_load_35 : decode cX10_load 35 = .ok (.ifCond .ne 6, 3) := by decide +kernel
theorem dX10_load_38 : decode cX10_load 38 = .ok (.ldc 74, 2) := by decide +kernel
theorem dX10_load_40 : decode cX10_load 40 = .ok (.ireturn, 1) := by decide +kernel
theorem dX10_load_41 : decode cX10_load 41 = .ok (.aload_n 0, 1) := by decide +kernel
theorem dX10_load_42 : decode cX10_load 42 = .ok (.invokevirtual 206, 3) := by decide +kernel
theorem dX10_load_45 : decode cX10_load 45 = .ok (.aload_n 0, 1) := by decide +kernel
theorem dX10_load_46 : decode cX10_load 46 = .ok (.invokevirtual 258, 3) := by decide +kernel
theorem dX10_load_49 : decode cX10_load 49 = .ok (.iconst 0, 1) := by decide +kernel
theorem dX10_load_50 : decode cX10_load 50 = .ok (.istore 4, 2) := by decide +kernel
theorem dX10_load_52 : decode cX10_load 52 = .ok (.iload 4, 2) := by decide +kernel
theorem dX10_load_54 : decode cX10_load 54 = .ok (.bipush 6, 2) := by decide +kernel
theorem dX10_load_56 : decode cX10_load 56 = .ok (.if_icmp .ge 26, 3) := by decide +kernel
theorem dX10_load_59 : decode cX10_load 59 = .ok (.aload_n 0, 1) := by decide +kernel
theorem dX10_load_60 : decode cX10_load 60 = .ok (.iload 4, 2) := by decide +kernel
theorem dX10_load_62 : decode cX10_load 62 = .ok (.aload_n 0, 1) := by decide +kernel
theorem dX10_load_63 : decode cX10_load 63 = .ok (.getfield 61, 3) := by decide +kernel
theorem dX10_load_66 : decode cX10_load 66 = .ok (.iload 4, 2) := by decide +kernel
theorem dX10_load_68 : decode cX10_load 68 = .ok (.laload, 1) := by decide +kernel
theorem dX10_load_69 : decode cX10_load 69 = .ok (.aload_n 0, 1) := by decide +kernel
theorem dX10_load_70 : decode cX10_load 70 = .ok (.getfield 243, 3) := by decide +kernel
theorem dX10_load_73 : decode cX10_load 73 = .ok (.invokevirtual 158, 3) := by decide +kernel
theorem dX10_load_76 : decode cX10_load 76 = .ok (.iinc 4 1, 3) := by decide +kernel
theorem dX10_load_79 : decode cX10_load 79 = .ok (.goto (-27), 3) := by decide +kernel
theorem dX10_load_82 : decode cX10_load 82 = .ok (.iconst 1, 1) := by decide +kernel
theorem dX10_load_83 : decode cX10_load 83 = .ok (.ireturn, 1) := by decide +kernel
set_option maxRecDepth 20000 in
theorem ggX10_tells_X10_normOf : GoodIn wsX10_tells wsX10_normOf := goodIn_r _ [7, 2, 21, 22, 23, 24, 25, 26, 27, 28, 29, 30, 31, 32, 33, 34, 35, 36, 37, 38, 39, 40, 41, 42, 43, 44, 45, 46] (by decide +kernel) (by decide +kernel)
set_option maxRecDepth 20000 in
theorem gX10_tells_X10_normOf : GoodIn wsX10_tells (wsV RX10 261 RX10 yX10_normOf wsX10_normOf) := goodIn_app (goodIn_of _ (by decide +kernel)) ggX10_tells_X10_normOf
set_option maxRecDepth 20000 in
theorem ggX10_tells_X10_lay : GoodIn wsX10_tells wsX10_lay := goodIn_r _ [11, 12, 13, 14, 15, 6, 16, 21, 22, 23, 24, 25, 26, 27, 28, 29, 30, 31, 32, 33, 34, 35, 36, 37, 38, 39, 40, 41, 42, 43, 44, 45, 46] (by decide +kernel) (by decide +kernel)
set_option maxRecDepth 20000 in
theorem gX10_tells_X10_lay : GoodIn wsX10_tells (wsV RX10 158 RX10 yX10_lay wsX10_lay) := goodIn_app (goodIn_of _ (by decide +kernel)) ggX10_tells_X10_lay
set_option maxRecDepth 20000 in
theorem ggX10_tells_X10_partOf : GoodIn wsX10_tells wsX10_partOf := goodIn_r _ [20, 12, 13, 21, 22, 23, 24, 25, 26, 27, 28, 29, 30, 31, 32, 33, 34, 35, 36, 37, 38, 39, 40, 41, 42, 43, 44, 45, 46] (by decide +kernel) (by decide +kernel)
set_option maxRecDepth 20000 in
theorem gX10_tells_X10_partOf : GoodIn wsX10_tells (wsV RX10 224 RX10 yX10_partOf wsX10_partOf) := goodIn_app (goodIn_of _ (by decide +kernel)) ggX10_tells_X10_partOf
theorem dX10_tells_0 : decode cX10_tells 0 = .ok (.iload_n 2, 1) := by decide +kernel
theorem dX10_tells_1 : decode cX10_tells 1 = .ok (.iconst 2, 1) := by decide +kernel
theorem dX10_tells_2 : decode cX10_tells 2 = .ok (.if_icmp .ne 26, 3) := by decide +kernel
theorem dX10_tells_5 : decode cX10_tells 5 = .ok (.aload_n 0, 1) := by decide +kernel
theorem dX10_tells_6 : decode cX10_tells 6 = .ok (.bipush 78, 2) := by decide +kernel
theorem dX10_tells_8 : decode cX10_tells 8 = .ok (.aload_n 0, 1) := by decide +kernel
theorem dX10_tells_9 : decode cX10_tells 9 = .ok (.iload_n 1, 1) := by decide +kernel
theorem dX10_tells_10 : decode cX10_tells 10 = .ok (.invokevirtual 261, 3) := by decide +kernel
theorem dX10_tells_13 : decode cX10_tells 13 = .ok (.aload_n 0, 1) := by decide +kernel
theorem dX10_tells_14 : decode cX10_tells 14 = .ok (.getfield 243, 3) := by decide +kernel
theorem dX10_tells_17 : decode cX10_tells 17 = .ok (.aload_n 0, 1) := by decide +kernel
theorem dX10_tells_18 : decode cX10_tells 18 = .ok (.getfield 243, 3) := by decide +kernel
theorem dX10_tells_21 : decode cX10_tells 21 = .ok (.lmul, 1) := by decide +kernel
theorem dX10_tells_22 : decode cX10_tells 22 = .ok (.invokevirtual 158, 3) := by decide +kernel
theorem dX10_tells_25 : decode cX10_tells 25 = .ok (.goto 23, 3) := by decide +kernel
theorem dX10_tells_28 : decode cX10_tells 28 = .ok (.aload_n 0, 1) := by decide +kernel
theorem dX10_tells_29 : decode cX10_tells 29 = .ok (.bipush 78, 2) := by decide +kernel
theorem dX10_tells_31 : decode cX10_tells 31 = .ok (.aload_n 0, 1) := by decide +kernel
theorem dX10_tells_32 : decode cX10_tells 32 = .ok (.getfield 61, 3) := by decide +kernel
theorem dX10_tells_35 : decode cX10_tells 35 = .ok (.iconst 2, 1) := by decide +kernel
theorem dX10_tells_36 : decode cX10_tells 36 = .ok (.iload_n 1, 1) := by decide +kernel
theorem dX10_tells_37 : decode cX10_tells 37 = .ok (.imul, 1) := by decide +kernel
theorem dX10_tells_38 : decode cX10_tells 38 = .ok (.iload_n 2, 1) := by decide +kernel
theorem dX10_tells_39 : decode cX10_tells 39 = .ok (.iadd, 1) := by decide +kernel
theorem dX10_tells_40 : decode cX10_tells 40 = .ok (.laload, 1) := by decide +kernel
theorem dX10_tells_41 : decode cX10_tells 41 = .ok (.aload_n 0, 1) := by decide +kernel
theorem dX10_tells_42 : decode cX10_tells 42 = .ok (.getfield 243, 3) := by decide +kernel
theorem dX10_tells_45 : decode cX10_tells 45 = .ok (.invokevirtual 158, 3) := by decide +kernel
theorem dX10_tells_48 : decode cX10_tells 48 = .ok (.aload_n 0, 1) := by decide +kernel
theorem dX10_tells_49 : decode cX10_tells 49 = .ok (.bipush 78, 2) := by decide +kernel
theorem dX10_tells_51 : decode cX10_tells 51 = .ok (.iload_n 3, 1) := by decide +kernel
theorem dX10_tells_52 : decode cX10_tells 52 = .ok (.invokevirtual 224, 3) := by decide +kernel
theorem dX10_tells_55 : decode cX10_tells 55 = .ok (.lreturn, 1) := by decide +kernel
set_option maxRecDepth 20000 in
theorem ggX10_current_X10_isBus : GoodIn wsX10_current wsX10_isBus := goodIn_r _ [10, 11, 12, 13, 9, 14, 61, 62, 63, 64, 65, 66, 67, 68, 69, 70, 71, 72, 73, 74, 75, 76, 77, 78, 79, 80, 81, 82, 83, 84, 85, 86] (by decide +kernel) (by decide +kernel)
set_option maxRecDepth 20000 in
theorem gX10_current_X10_isBus : GoodIn wsX10_current (wsV RX10 142 RX10 yX10_isBus wsX10_isBus) := goodIn_app (goodIn_of _ (by decide +kernel)) ggX10_current_X10_isBus
set_option maxRecDepth 20000 in
theorem ggX10_current_X10_isPhase : GoodIn wsX10_current wsX10_isPhase := goodIn_r _ [17, 2, 12, 13, 9, 14] (by decide +kernel) (by decide +kernel)
set_option maxRecDepth 20000 in
theorem gX10_current_X10_isPhase : GoodIn wsX10_current (va_wsS RX10 199 yX10_isPhase wsX10_isPhase) := goodIn_app (goodIn_of _ (by decide +kernel)) ggX10_current_X10_isPhase
set_option maxRecDepth 20000 in
theorem ggX10_current_X10_isSort : GoodIn wsX10_current wsX10_isSort := goodIn_r _ [20, 21, 22, 12, 13, 9, 14] (by decide +kernel) (by decide +kernel)
set_option maxRecDepth 20000 in
theorem gX10_current_X10_isSort : GoodIn wsX10_current (va_wsS RX10 252 yX10_isSort wsX10_isSort) := goodIn_app (goodIn_of _ (by decide +kernel)) ggX10_current_X10_isSort
set_option maxRecDepth 20000 in
theorem ggX10_current_X10_in : GoodIn wsX10_current wsX10_in := goodIn_r _ [14] (by decide +kernel) (by decide +kernel)
set_option maxRecDepth 20000 in
theorem gX10_current_X10_in : GoodIn wsX10_current (va_wsS RX10 66 yX10_in wsX10_in) := goodIn_app (goodIn_of _ (by decide +kernel)) ggX10_current_X10_in
set_option maxRecDepth 20000 in
theorem ggX10_current_X10_layFault : GoodIn wsX10_current wsX10_layFault := goodIn_r _ [26, 21, 27, 28, 4, 29, 30, 31, 9, 32, 33, 34, 61, 62, 63, 64, 65, 66, 67, 68, 69, 70, 71, 72, 73, 74, 75, 76, 77, 78, 79, 80, 81, 82, 83, 84, 85, 86] (by decide +kernel) (by decide +kernel)
set_option maxRecDepth 20000 in
theorem gX10_current_X10_layFault : GoodIn wsX10_current (wsV RX10 255 RX10 yX10_layFault wsX10_layFault) := goodIn_app (goodIn_of _ (by decide +kernel)) ggX10_current_X10_layFault
set_option maxRecDepth 20000 in
theorem ggX10_current_X10_layPhases : GoodIn wsX10_current wsX10_layPhases := goodIn_r _ [38, 39, 27, 61, 62, 63, 64, 65, 66, 67, 68, 69, 70, 71, 72, 73, 74, 75, 76, 77, 78, 79, 80, 81, 82, 83, 84, 85, 86] (by decide +kernel) (by decide +kernel)
set_option maxRecDepth 20000 in
theorem gX10_current_X10_layPhases : GoodIn wsX10_current (wsV RX10 258 RX10 yX10_layPhases wsX10_layPhases) := goodIn_app (goodIn_of _ (by decide +kernel)) ggX10_current_X10_layPhases
set_option maxRecDepth 20000 in
theorem ggX10_current_X10_tells : GoodIn wsX10_current wsX10_tells := goodIn_r _ [43, 4, 39, 44, 45, 46, 9, 47, 48, 49, 50, 51, 52, 53, 54, 55, 56, 57, 58, 59, 60, 61, 62, 63, 64, 65, 66, 67, 68, 69, 70, 71, 72, 73, 74, 75, 76, 77, 78, 79, 80, 81, 82, 83, 84, 85, 86] (by decide +kernel) (by decide +kernel)
set_option maxRecDepth 20000 in
theorem gX10_current_X10_tells : GoodIn wsX10_current (wsV RX10 267 RX10 yX10_tells wsX10_tells) := goodIn_app (goodIn_of _ (by decide +kernel)) ggX10_current_X10_tells
theorem dX10_current_0 : decode cX10_current 0 = .ok (.aload_n 0, 1) := by decide +kernel
theorem dX10_current_1 : decode cX10_current 1 = .ok (.iload_n 2, 1) := by decide +kernel
theorem dX10_current_2 : decode cX10_current 2 = .ok (.invokevirtual 142, 3) := by decide +kernel
theorem dX10_current_5 : decode cX10_current 5 = .ok (.ifCond .eq 11, 3) := by decide +kernel
theorem dX10_current_8 : decode cX10_current 8 = .ok (.iload 4, 2) := by decide +kernel
theorem dX10_current_10 : decode cX10_current 10 = .ok (.invokestatic 199, 3) := by decide +kernel
theorem dX10_current_13 : decode cX10_current 13 = .ok (.ifCond .ne 7, 3) := by decide +kernel
theorem dX10_current_16 : decode cX10_current 16 = .ok (.ldc2_w 220, 3) := by decide +kernel
theorem dX10_current_19 : decode cX10_current 19 = .ok (.lreturn, 1) := by decide +kernel
theorem dX10_current_20 : decode cX10_current 20 = .ok (.iload_n 1, 1) := by decide +kernel
theorem dX10_current_21 : decode cX10_current 21 = .ok (.iload_n 3, 1) := by decide +kernel
theorem dX10_current_22 : decode cX10_current 22 = .ok (.invokestatic 252, 3) := by decide +kernel
theorem dX10_current_25 : decode cX10_current 25 = .ok (.ifCond .eq 27, 3) := by decide +kernel
theorem dX10_current_28 : decode cX10_current 28 = .ok (.iload 5, 2) := by decide +kernel
theorem dX10_current_30 : decode cX10_current 30 = .ok (.i2l, 1) := by decide +kernel
theorem dX10_current_31 : decode cX10_current 31 = .ok (.lconst 0, 1) := by decide +kernel
theorem dX10_current_32 : decode cX10_current 32 = .ok (.ldc2_w 197, 3) := by decide +kernel
theorem dX10_current_35 : decode cX10_current 35 = .ok (.invokestatic 66, 3) := by decide +kernel
theorem dX10_current_38 : decode cX10_current 38 = .ok (.ifCond .eq 14, 3) := by decide +kernel
theorem dX10_current_41 : decode cX10_current 41 = .ok (.iload 6, 2) := by decide +kernel
theorem dX10_current_43 : decode cX10_current 43 = .ok (.i2l, 1) := by decide +kernel
theorem dX10_current_44 : decode cX10_current 44 = .ok (.lconst 0, 1) := by decide +kernel
theorem dX10_current_45 : decode cX10_current 45 = .ok (.lconst 1, 1) := by decide +kernel
theorem dX10_current_46 : decode cX10_current 46 = .ok (.invokestatic 66, 3) := by decide +kernel
theorem dX10_current_49 : decode cX10_current 49 = .ok (.ifCond .ne 7, 3) := by decide +kernel
theorem dX10_current_52 : decode cX10_current 52 = .ok (.ldc2_w 222, 3) := by decide +kernel
theorem dX10_current_55 : decode cX10_current 55 = .ok (.lreturn, 1) := by decide +kernel
theorem dX10_current_56 : decode cX10_current 56 = .ok (.aload_n 0, 1) := by decide +kernel
theorem dX10_current_57 : decode cX10_current 57 = .ok (.iload_n 1, 1) := by decide +kernel
theorem dX10_current_58 : decode cX10_current 58 = .ok (.iload_n 2, 1) := by decide +kernel
theorem dX10_current_59 : decode cX10_current 59 = .ok (.iload_n 3, 1) := by decide +kernel
theorem dX10_current_60 : decode cX10_current 60 = .ok (.invokevirtual 255, 3) := by decide +kernel
theorem dX10_current_63 : decode cX10_current 63 = .ok (.aload_n 0, 1) := by decide +kernel
theorem dX10_current_64 : decode cX10_current 64 = .ok (.invokevirtual 258, 3) := by decide +kernel
theorem dX10_current_67 : decode cX10_current 67 = .ok (.aload_n 0, 1) := by decide +kernel
theorem dX10_current_68 : decode cX10_current 68 = .ok (.getfield 243, 3) := by decide +kernel
theorem dX10_current_71 : decode cX10_current 71 = .ok (.lconst 0, 1) := by decide +kernel
theorem dX10_current_72 : decode cX10_current 72 = .ok (.lcmp, 1) := by decide +kernel
theorem dX10_current_73 : decode cX10_current 73 = .ok (.ifCond .ne 9, 3) := by decide +kernel
theorem dX10_current_76 : decode cX10_current 76 = .ok (.ldc2_w 265, 3) := by decide +kernel
theorem dX10_current_79 : decode cX10_current 79 = .ok (.goto 13, 3) := by decide +kernel
theorem dX10_current_82 : decode cX10_current 82 = .ok (.aload_n 0, 1) := by decide +kernel
theorem dX10_current_83 : decode cX10_current 83 = .ok (.iload 4, 2) := by decide +kernel
theorem dX10_current_85 : decode cX10_current 85 = .ok (.iload 5, 2) := by decide +kernel
theorem dX10_current_87 : decode cX10_current 87 = .ok (.iload 6, 2) := by decide +kernel
theorem dX10_current_89 : decode cX10_current 89 = .ok (.invokevirtual 267, 3) := by decide +kernel
theorem dX10_current_92 : decode cX10_current 92 = .ok (.lreturn, 1) := by decide +kernel
set_option maxRecDepth 20000 in
theorem ggX10_voltage_X10_isBus : GoodIn wsX10_voltage wsX10_isBus := goodIn_r _ [10, 11, 12, 13, 9, 14, 69, 70, 71, 72, 73, 74, 75, 76, 77, 78, 79, 80, 81, 82, 83, 84, 85, 86, 87, 88, 89, 90, 91, 92, 93, 94] (by decide +kernel) (by decide +kernel)
set_option maxRecDepth 20000 in
theorem gX10_voltage_X10_isBus : GoodIn wsX10_voltage (wsV RX10 142 RX10 yX10_isBus wsX10_isBus) := goodIn_app (goodIn_of _ (by decide +kernel)) ggX10_voltage_X10_isBus
set_option maxRecDepth 20000 in
theorem ggX10_voltage_X10_isPhase : GoodIn wsX10_voltage wsX10_isPhase := goodIn_r _ [17, 2, 12, 13, 9, 14] (by decide +kernel) (by decide +kernel)
set_option maxRecDepth 20000 in
theorem gX10_voltage_X10_isPhase : GoodIn wsX10_voltage (va_wsS RX10 199 yX10_isPhase wsX10_isPhase) := goodIn_app (goodIn_of _ (by decide +kernel)) ggX10_voltage_X10_isPhase
set_option maxRecDepth 20000 in
theorem ggX10_voltage_X10_isSort : GoodIn wsX10_voltage wsX10_isSort := goodIn_r _ [20, 21, 22, 12, 13, 9, 14] (by decide +kernel) (by decide +kernel)
set_option maxRecDepth 20000 in
theorem gX10_voltage_X10_isSort : GoodIn wsX10_voltage (va_wsS RX10 252 yX10_isSort wsX10_isSort) := goodIn_app (goodIn_of _ (by decide +kernel)) ggX10_voltage_X10_isSort
set_option maxRecDepth 20000 in
theorem ggX10_voltage_X10_in : GoodIn wsX10_voltage wsX10_in := goodIn_r _ [14] (by decide +kernel) (by decide +kernel)
set_option maxRecDepth 20000 in
theorem gX10_voltage_X10_in : GoodIn wsX10_voltage (va_wsS RX10 66 yX10_in wsX10_in) := goodIn_app (goodIn_of _ (by decide +kernel)) ggX10_voltage_X10_in
set_option maxRecDepth 20000 in
theorem ggX10_voltage_X10_layFault : GoodIn wsX10_voltage wsX10_layFault := goodIn_r _ [26, 21, 27, 28, 4, 29, 30, 31, 9, 32, 33, 34, 69, 70, 71, 72, 73, 74, 75, 76, 77, 78, 79, 80, 81, 82, 83, 84, 85, 86, 87, 88, 89, 90, 91, 92, 93, 94] (by decide +kernel) (by decide +kernel)
set_option maxRecDepth 20000 in
theorem gX10_voltage_X10_layFault : GoodIn wsX10_voltage (wsV RX10 255 RX10 yX10_layFault wsX10_layFault) := goodIn_app (goodIn_of _ (by decide +kernel)) ggX10_voltage_X10_layFault
set_option maxRecDepth 20000 in
theorem ggX10_voltage_X10_layVoltage : GoodIn wsX10_voltage wsX10_layVoltage := goodIn_r _ [38, 27, 28, 4, 39, 40, 41, 9, 42, 34, 29, 30, 31, 32, 33, 69, 70, 71, 72, 73, 74, 75, 76, 77, 78, 79, 80, 81, 82, 83, 84, 85, 86, 87, 88, 89, 90, 91, 92, 93, 94] (by decide +kernel) (by decide +kernel)
set_option maxRecDepth 20000 in
theorem gX10_voltage_X10_layVoltage : GoodIn wsX10_voltage (wsV RX10 271 RX10 yX10_layVoltage wsX10_layVoltage) := goodIn_app (goodIn_of _ (by decide +kernel)) ggX10_voltage_X10_layVoltage
set_option maxRecDepth 20000 in
theorem ggX10_voltage_X10_layPhases : GoodIn wsX10_voltage wsX10_layPhases := goodIn_r _ [46, 47, 27, 69, 70, 71, 72, 73, 74, 75, 76, 77, 78, 79, 80, 81, 82, 83, 84, 85, 86, 87, 88, 89, 90, 91, 92, 93, 94] (by decide +kernel) (by decide +kernel)
set_option maxRecDepth 20000 in
theorem gX10_voltage_X10_layPhases : GoodIn wsX10_voltage (wsV RX10 258 RX10 yX10_layPhases wsX10_layPhases) := goodIn_app (goodIn_of _ (by decide +kernel)) ggX10_voltage_X10_layPhases
set_option maxRecDepth 20000 in
theorem ggX10_voltage_X10_tells : GoodIn wsX10_voltage wsX10_tells := goodIn_r _ [51, 4, 47, 52, 53, 54, 9, 55, 56, 57, 58, 59, 60, 61, 62, 63, 64, 65, 66, 67, 68, 69, 70, 71, 72, 73, 74, 75, 76, 77, 78, 79, 80, 81, 82, 83, 84, 85, 86, 87, 88, 89, 90, 91, 92, 93, 94] (by decide +kernel) (by decide +kernel)
set_option maxRecDepth 20000 in
theorem gX10_voltage_X10_tells : GoodIn wsX10_voltage (wsV RX10 267 RX10 yX10_tells wsX10_tells) := goodIn_app (goodIn_of _ (by decide +kernel)) ggX10_voltage_X10_tells
theorem dX10_voltage_0 : decode cX10_voltage 0 = .ok (.aload_n 0, 1) := by decide +kernel
theorem dX10_voltage_1 : decode cX10_voltage 1 = .ok (.iload_n 2, 1) := by decide +kernel
theorem dX10_voltage_2 : decode cX10_voltage 2 = .ok (.invokevirtual 142, 3) := by decide +kernel
theorem dX10_voltage_5 : decode cX10_voltage 5 = .ok (.ifCond .eq 20, 3) := by decide +kernel
theorem dX10_voltage_8 : decode cX10_voltage 8 = .ok (.aload_n 0, 1) := by decide +kernel
theorem dX10_voltage_9 : decode cX10_voltage 9 = .ok (.iload 4, 2) := by decide +kernel
theorem dX10_voltage_11 : decode cX10_voltage 11 = .ok (.invokevirtual 142, 3) := by decide +kernel
theorem dX10_voltage_14 : decode cX10_voltage 14 = .ok (.ifCond .eq 11, 3) := by decide +kernel
theorem dX10_voltage_17 : decode cX10_voltage 17 = .ok (.iload 5, 2) := by decide +kernel
theorem dX10_voltage_19 : decode cX10_voltage 19 = .ok (.invokestatic 199, 3) := by decide +kernel
theorem dX10_voltage_22 : decode cX10_voltage 22 = .ok (.ifCond .ne 7, 3) := by decide +kernel
theorem dX10_voltage_25 : decode cX10_voltage 25 = .ok (.ldc2_w 220, 3) := by decide +kernel
theorem dX10_voltage_28 : decode cX10_voltage 28 = .ok (.lreturn, 1) := by decide +kernel
theorem dX10_voltage_29 : decode cX10_voltage 29 = .ok (.iload_n 1, 1) := by decide +kernel
theorem dX10_voltage_30 : decode cX10_voltage 30 = .ok (.iload_n 3, 1) := by decide +kernel
theorem dX10_voltage_31 : decode cX10_voltage 31 = .ok (.invokestatic 252, 3) := by decide +kernel
theorem dX10_voltage_34 : decode cX10_voltage 34 = .ok (.ifCond .eq 27, 3) := by decide +kernel
theorem dX10_voltage_37 : decode cX10_voltage 37 = .ok (.iload 6, 2) := by decide +kernel
theorem dX10_voltage_39 : decode cX10_voltage 39 = .ok (.i2l, 1) := by decide +kernel
theorem dX10_voltage_40 : decode cX10_voltage 40 = .ok (.lconst 0, 1) := by decide +kernel
theorem dX10_voltage_41 : decode cX10_voltage 41 = .ok (.ldc2_w 197, 3) := by decide +kernel
theorem dX10_voltage_44 : decode cX10_voltage 44 = .ok (.invokestatic 66, 3) := by decide +kernel
theorem dX10_voltage_47 : decode cX10_voltage 47 = .ok (.ifCond .eq 14, 3) := by decide +kernel
theorem dX10_voltage_50 : decode cX10_voltage 50 = .ok (.iload 7, 2) := by decide +kernel
theorem dX10_voltage_52 : decode cX10_voltage 52 = .ok (.i2l, 1) := by decide +kernel
theorem dX10_voltage_53 : decode cX10_voltage 53 = .ok (.lconst 0, 1) := by decide +kernel
theorem dX10_voltage_54 : decode cX10_voltage 54 = .ok (.lconst 1, 1) := by decide +kernel
theorem dX10_voltage_55 : decode cX10_voltage 55 = .ok (.invokestatic 66, 3) := by decide +kernel
theorem dX10_voltage_58 : decode cX10_voltage 58 = .ok (.ifCond .ne 7, 3) := by decide +kernel
theorem dX10_voltage_61 : decode cX10_voltage 61 = .ok (.ldc2_w 222, 3) := by decide +kernel
theorem dX10_voltage_64 : decode cX10_voltage 64 = .ok (.lreturn, 1) := by decide +kernel
theorem dX10_voltage_65 : decode cX10_voltage 65 = .ok (.aload_n 0, 1) := by decide +kernel
theorem dX10_voltage_66 : decode cX10_voltage 66 = .ok (.iload_n 1, 1) := by decide +kernel
theorem dX10_voltage_67 : decode cX10_voltage 67 = .ok (.iload_n 2, 1) := by decide +kernel
theorem dX10_voltage_68 : decode cX10_voltage 68 = .ok (.iload_n 3, 1) := by decide +kernel
theorem dX10_voltage_69 : decode cX10_voltage 69 = .ok (.invokevirtual 255, 3) := by decide +kernel
theorem dX10_voltage_72 : decode cX10_voltage 72 = .ok (.aload_n 0, 1) := by decide +kernel
theorem dX10_voltage_73 : decode cX10_voltage 73 = .ok (.iload_n 2, 1) := by decide +kernel
theorem dX10_voltage_74 : decode cX10_voltage 74 = .ok (.iload 4, 2) := by decide +kernel
theorem dX10_voltage_76 : decode cX10_voltage 76 = .ok (.invokevirtual 271, 3) := by decide +kernel
theorem dX10_voltage_79 : decode cX10_voltage 79 = .ok (.aload_n 0, 1) := by decide +kernel
theorem dX10_voltage_80 : decode cX10_voltage 80 = .ok (.invokevirtual 258, 3) := by decide +kernel
theorem dX10_voltage_83 : decode cX10_voltage 83 = .ok (.aload_n 0, 1) := by decide +kernel
theorem dX10_voltage_84 : decode cX10_voltage 84 = .ok (.getfield 243, 3) := by decide +kernel
theorem dX10_voltage_87 : decode cX10_voltage 87 = .ok (.lconst 0, 1) := by decide +kernel
theorem dX10_voltage_88 : decode cX10_voltage 88 = .ok (.lcmp, 1) := by decide +kernel
theorem dX10_voltage_89 : decode cX10_voltage 89 = .ok (.ifCond .ne 9, 3) := by decide +kernel
theorem dX10_voltage_92 : decode cX10_voltage 92 = .ok (.ldc2_w 265, 3) := by decide +kernel
theorem dX10_voltage_95 : decode cX10_voltage 95 = .ok (.goto 13, 3) := by decide +kernel
theorem dX10_voltage_98 : decode cX10_voltage 98 = .ok (.aload_n 0, 1) := by decide +kernel
theorem dX10_voltage_99 : decode cX10_voltage 99 = .ok (.iload 5, 2) := by decide +kernel
theorem dX10_voltage_101 : decode cX10_voltage 101 = .ok (.iload 6, 2) := by decide +kernel
theorem dX10_voltage_103 : decode cX10_voltage 103 = .ok (.iload 7, 2) := by decide +kernel
theorem dX10_voltage_105 : decode cX10_voltage 105 = .ok (.invokevirtual 267, 3) := by decide +kernel
theorem dX10_voltage_108 : decode cX10_voltage 108 = .ok (.lreturn, 1) := by decide +kernel
set_option maxRecDepth 20000 in
theorem ggX10_sag_X10_isBus : GoodIn wsX10_sag wsX10_isBus := goodIn_r _ [13, 4, 14, 15, 12, 16, 50, 51, 52, 53, 54, 55, 56, 57, 58, 59, 60, 61, 62, 63, 64, 65, 66, 67, 68, 69, 70, 71, 72, 73, 74, 75] (by decide +kernel) (by decide +kernel)
set_option maxRecDepth 20000 in
theorem gX10_sag_X10_isBus : GoodIn wsX10_sag (wsV RX10 142 RX10 yX10_isBus wsX10_isBus) := goodIn_app (goodIn_of _ (by decide +kernel)) ggX10_sag_X10_isBus
set_option maxRecDepth 20000 in
theorem ggX10_sag_X10_isSort : GoodIn wsX10_sag wsX10_isSort := goodIn_r _ [19, 20, 21, 14, 15, 12, 16] (by decide +kernel) (by decide +kernel)
set_option maxRecDepth 20000 in
theorem gX10_sag_X10_isSort : GoodIn wsX10_sag (va_wsS RX10 252 yX10_isSort wsX10_isSort) := goodIn_app (goodIn_of _ (by decide +kernel)) ggX10_sag_X10_isSort
set_option maxRecDepth 20000 in
theorem ggX10_sag_X10_in : GoodIn wsX10_sag wsX10_in := goodIn_r _ [16] (by decide +kernel) (by decide +kernel)
set_option maxRecDepth 20000 in
theorem gX10_sag_X10_in : GoodIn wsX10_sag (va_wsS RX10 66 yX10_in wsX10_in) := goodIn_app (goodIn_of _ (by decide +kernel)) ggX10_sag_X10_in
set_option maxRecDepth 20000 in
theorem ggX10_sag_X10_layFault : GoodIn wsX10_sag wsX10_layFault := goodIn_r _ [25, 20, 26, 5, 6, 27, 28, 29, 12, 30, 31, 32, 50, 51, 52, 53, 54, 55, 56, 57, 58, 59, 60, 61, 62, 63, 64, 65, 66, 67, 68, 69, 70, 71, 72, 73, 74, 75] (by decide +kernel) (by decide +kernel)
set_option maxRecDepth 20000 in
theorem gX10_sag_X10_layFault : GoodIn wsX10_sag (wsV RX10 255 RX10 yX10_layFault wsX10_layFault) := goodIn_app (goodIn_of _ (by decide +kernel)) ggX10_sag_X10_layFault
set_option maxRecDepth 20000 in
theorem ggX10_sag_X10_layVoltage : GoodIn wsX10_sag wsX10_layVoltage := goodIn_r _ [36, 26, 5, 6, 37, 38, 39, 12, 40, 32, 27, 28, 29, 30, 31, 50, 51, 52, 53, 54, 55, 56, 57, 58, 59, 60, 61, 62, 63, 64, 65, 66, 67, 68, 69, 70, 71, 72, 73, 74, 75] (by decide +kernel) (by decide +kernel)
set_option maxRecDepth 20000 in
theorem gX10_sag_X10_layVoltage : GoodIn wsX10_sag (wsV RX10 271 RX10 yX10_layVoltage wsX10_layVoltage) := goodIn_app (goodIn_of _ (by decide +kernel)) ggX10_sag_X10_layVoltage
set_option maxRecDepth 20000 in
theorem ggX10_sag_X10_layPhases : GoodIn wsX10_sag wsX10_layPhases := goodIn_r _ [44, 45, 26, 50, 51, 52, 53, 54, 55, 56, 57, 58, 59, 60, 61, 62, 63, 64, 65, 66, 67, 68, 69, 70, 71, 72, 73, 74, 75] (by decide +kernel) (by decide +kernel)
set_option maxRecDepth 20000 in
theorem gX10_sag_X10_layPhases : GoodIn wsX10_sag (wsV RX10 258 RX10 yX10_layPhases wsX10_layPhases) := goodIn_app (goodIn_of _ (by decide +kernel)) ggX10_sag_X10_layPhases
set_option maxRecDepth 20000 in
theorem ggX10_sag_X10_normOf : GoodIn wsX10_sag wsX10_normOf := goodIn_r _ [49, 45, 50, 51, 52, 53, 54, 55, 56, 57, 58, 59, 60, 61, 62, 63, 64, 65, 66, 67, 68, 69, 70, 71, 72, 73, 74, 75] (by decide +kernel) (by decide +kernel)
set_option maxRecDepth 20000 in
theorem gX10_sag_X10_normOf : GoodIn wsX10_sag (wsV RX10 261 RX10 yX10_normOf wsX10_normOf) := goodIn_app (goodIn_of _ (by decide +kernel)) ggX10_sag_X10_normOf
theorem dX10_sag_0 : decode cX10_sag 0 = .ok (.aload_n 0, 1) := by decide +kernel
theorem dX10_sag_1 : decode cX10_sag 1 = .ok (.iload_n 2, 1) := by decide +kernel
theorem dX10_sag_2 : decode cX10_sag 2 = .ok (.invokevirtual 142, 3) := by decide +kernel
theorem dX10_sag_5 : decode cX10_sag 5 = .ok (.ifCond .ne 6, 3) := by decide +kernel
theorem dX10_sag_8 : decode cX10_sag 8 = .ok (.ldc 145, 2) := by decide +kernel
theorem dX10_sag_10 : decode cX10_sag 10 = .ok (.ireturn, 1) := by decide +kernel
theorem dX10_sag_11 : decode cX10_sag 11 = .ok (.iload_n 1, 1) := by decide +kernel
theorem dX10_sag_12 : decode cX10_sag 12 = .ok (.iload_n 3, 1) := by decide +kernel
theorem dX10_sag_13 : decode cX10_sag 13 = .ok (.invokestatic 252, 3) := by decide +kernel
theorem dX10_sag_16 : decode cX10_sag 16 = .ok (.ifCond .eq 16, 3) := by decide +kernel
theorem dX10_sag_19 : decode cX10_sag 19 = .ok (.iload 4, 2) := by decide +kernel
theorem dX10_sag_21 : decode cX10_sag 21 = .ok (.i2l, 1) := by decide +kernel
theorem dX10_sag_22 : decode cX10_sag 22 = .ok (.lconst 0, 1) := by decide +kernel
theorem dX10_sag_23 : decode cX10_sag 23 = .ok (.ldc2_w 274, 3) := by decide +kernel
theorem dX10_sag_26 : decode cX10_sag 26 = .ok (.invokestatic 66, 3) := by decide +kernel
theorem dX10_sag_29 : decode cX10_sag 29 = .ok (.ifCond .ne 6, 3) := by decide +kernel
theorem dX10_sag_32 : decode cX10_sag 32 = .ok (.ldc 70, 2) := by decide +kernel
theorem dX10_sag_34 : decode cX10_sag 34 = .ok (.ireturn, 1) := by decide +kernel
theorem dX10_sag_35 : decode cX10_sag 35 = .ok (.iconst 0, 1) := by decide +kernel
theorem dX10_sag_36 : decode cX10_sag 36 = .ok (.istore 5, 2) := by decide +kernel
theorem dX10_sag_38 : decode cX10_sag 38 = .ok (.iconst 0, 1) := by decide +kernel
theorem dX10_sag_39 : decode cX10_sag 39 = .ok (.istore 6, 2) := by decide +kernel
theorem dX10_sag_41 : decode cX10_sag 41 = .ok (.iload 6, 2) := by decide +kernel
theorem dX10_sag_43 : decode cX10_sag 43 = .ok (.aload_n 0, 1) := by decide +kernel
theorem dX10_sag_44 : decode cX10_sag 44 = .ok (.getfield 20, 3) := by decide +kernel
theorem dX10_sag_47 : decode cX10_sag 47 = .ok (.if_icmp .ge 102, 3) := by decide +kernel
theorem dX10_sag_50 : decode cX10_sag 50 = .ok (.aload_n 0, 1) := by decide +kernel
theorem dX10_sag_51 : decode cX10_sag 51 = .ok (.iload_n 1, 1) := by decide +kernel
theorem dX10_sag_52 : decode cX10_sag 52 = .ok (.iload_n 2, 1) := by decide +kernel
theorem dX10_sag_53 : decode cX10_sag 53 = .ok (.iload_n 3, 1) := by decide +kernel
theorem dX10_sag_54 : decode cX10_sag 54 = .ok (.invokevirtual 255, 3) := by decide +kernel
theorem dX10_sag_57 : decode cX10_sag 57 = .ok (.aload_n 0, 1) := by decide +kernel
theorem dX10_sag_58 : decode cX10_sag 58 = .ok (.iload_n 2, 1) := by decide +kernel
theorem dX10_sag_59 : decode cX10_sag 59 = .ok (.iload 6, 2) := by decide +kernel
theorem dX10_sag_61 : decode cX10_sag 61 = .ok (.invokevirtual 271, 3) := by decide +kernel
theorem dX10_sag_64 : decode cX10_sag 64 = .ok (.aload_n 0, 1) := by decide +kernel
theorem dX10_sag_65 : decode cX10_sag 65 = .ok (.invokevirtual 258, 3) := by decide +kernel
theorem dX10_sag_68 : decode cX10_sag 68 = .ok (.aload_n 0, 1) := by decide +kernel
theorem dX10_sag_69 : decode cX10_sag 69 = .ok (.getfield 16, 3) := by decide +kernel
theorem dX10_sag_72 : decode cX10_sag 72 = .ok (.i2l, 1) := by decide +kernel
theorem dX10_sag_73 : decode cX10_sag 73 = .ok (.aload_n 0, 1) := by decide +kernel
theorem dX10_sag_74 : decode cX10_sag 74 = .ok (.getfield 16, 3) := by decide +kernel
theorem dX10_sag_77 : decode cX10_sag 77 = .ok (.i2l, 1) := by decide +kernel
theorem dX10_sag_78 : decode cX10_sag 78 = .ok (.lmul, 1) := by decide +kernel
theorem dX10_sag_79 : decode cX10_sag 79 = .ok (.iload 4, 2) := by decide +kernel
theorem dX10_sag_81 : decode cX10_sag 81 = .ok (.i2l, 1) := by decide +kernel
theorem dX10_sag_82 : decode cX10_sag 82 = .ok (.lmul, 1) := by decide +kernel
theorem dX10_sag_83 : decode cX10_sag 83 = .ok (.iload 4, 2) := by decide +kernel
theorem dX10_sag_85 : decode cX10_sag 85 = .ok (.i2l, 1) := by decide +kernel
theorem dX10_sag_86 : decode cX10_sag 86 = .ok (.lmul, 1) := by decide +kernel
theorem dX10_sag_87 : decode cX10_sag 87 = .ok (.aload_n 0, 1) := by decide +kernel
theorem dX10_sag_88 : decode cX10_sag 88 = .ok (.getfield 243, 3) := by decide +kernel
theorem dX10_sag_91 : decode cX10_sag 91 = .ok (.lmul, 1) := by decide +kernel
theorem dX10_sag_92 : decode cX10_sag 92 = .ok (.aload_n 0, 1) := by decide +kernel
theorem dX10_sag_93 : decode cX10_sag 93 = .ok (.getfield 243, 3) := by decide +kernel
theorem dX10_sag_96 : decode cX10_sag 96 = .ok (.lmul, 1) := by decide +kernel
theorem dX10_sag_97 : decode cX10_sag 97 = .ok (.lstore 7, 2) := by decide +kernel
theorem dX10_sag_99 : decode cX10_sag 99 = .ok (.iconst 0, 1) := by decide +kernel
theorem dX10_sag_100 : decode cX10_sag 100 = .ok (.istore 9, 2) := by decide +kernel
theorem dX10_sag_102 : decode cX10_sag 102 = .ok (.iload 9, 2) := by decide +kernel
theorem dX10_sag_104 : decode cX10_sag 104 = .ok (.iconst 3, 1) := by decide +kernel
theorem dX10_sag_105 : decode cX10_sag 105 = .ok (.if_icmp .ge 38, 3) := by decide +kernel
theorem dX10_sag_108 : decode cX10_sag 108 = .ok (.iload 5, 2) := by decide +kernel
theorem dX10_sag_110 : decode cX10_sag 110 = .ok (.aload_n 0, 1) := by decide +kernel
theorem dX10_sag_111 : decode cX10_sag 111 = .ok (.iload 9, 2) := by decide +kernel
theorem dX10_sag_113 : decode cX10_sag 113 = .ok (.invokevirtual 261, 3) := by decide +kernel
theorem dX10_sag_116 : decode cX10_sag 116 = .ok (.ldc2_w 276, 3) := by decide +kernel
theorem dX10_sag_119 : decode cX10_sag 119 = .ok (.lmul, 1) := by decide +kernel
theorem dX10_sag_120 : decode cX10_sag 120 = .ok (.lload 7, 2) := by decide +kernel
theorem dX10_sag_122 : decode cX10_sag 122 = .ok (.lcmp, 1) := by decide +kernel
theorem dX10_sag_123 : decode cX10_sag 123 = .ok (.ifCond .ge 10, 3) := by decide +kernel
theorem dX10_sag_126 : decode cX10_sag 126 = .ok (.iconst 1, 1) := by decide +kernel
theorem dX10_sag_127 : decode cX10_sag 127 = .ok (.iload 6, 2) := by decide +kernel
theorem dX10_sag_129 : decode cX10_sag 129 = .ok (.ishl, 1) := by decide +kernel
theorem dX10_sag_130 : decode cX10_sag 130 = .ok (.goto 4, 3) := by decide +kernel
theorem dX10_sag_133 : decode cX10_sag 133 = .ok (.iconst 0, 1) := by decide +kernel
theorem dX10_sag_134 : decode cX10_sag 134 = .ok (.ior, 1) := by decide +kernel
theorem dX10_sag_135 : decode cX10_sag 135 = .ok (.istore 5, 2) := by decide +kernel
theorem dX10_sag_137 : decode cX10_sag 137 = .ok (.iinc 9 1, 3) := by decide +kernel
theorem dX10_sag_140 : decode cX10_sag 140 = .ok (.goto (-38), 3) := by decide +kernel
theorem dX10_sag_143 : decode cX10_sag 143 = .ok (.iinc 6 1, 3) := by decide +kernel
theorem dX10_sag_146 : decode cX10_sag 146 = .ok (.goto (-105), 3) := by decide +kernel
theorem dX10_sag_149 : decode cX10_sag 149 = .ok (.aload_n 0, 1) := by decide +kernel
theorem dX10_sag_150 : decode cX10_sag 150 = .ok (.getfield 243, 3) := by decide +kernel
theorem dX10_sag_153 : decode cX10_sag 153 = .ok (.lconst 0, 1) := by decide +kernel
theorem dX10_sag_154 : decode cX10_sag 154 = .ok (.lcmp, 1) := by decide +kernel
theorem dX10_sag_155 : decode cX10_sag 155 = .ok (.ifCond .ne 8, 3) := by decide +kernel
theorem dX10_sag_158 : decode cX10_sag 158 = .ok (.ldc 74, 2) := by decide +kernel
theorem dX10_sag_160 : decode cX10_sag 160 = .ok (.goto 5, 3) := by decide +kernel
theorem dX10_sag_163 : decode cX10_sag 163 = .ok (.iload 5, 2) := by decide +kernel
theorem dX10_sag_165 : decode cX10_sag 165 = .ok (.ireturn, 1) := by decide +kernel
set_option maxRecDepth 20000 in
theorem ggX10_greatestNorm_X10_normOf : GoodIn wsX10_greatestNorm wsX10_normOf := goodIn_r _ [5, 6, 7, 8, 9, 10, 11, 12, 13, 14, 15, 16, 17, 18, 19, 20, 21, 22, 23, 24, 25, 26, 27, 28, 29, 30, 31, 32] (by decide +kernel) (by decide +kernel)
set_option maxRecDepth 20000 in
theorem gX10_greatestNorm_X10_normOf : GoodIn wsX10_greatestNorm (wsV RX10 261 RX10 yX10_normOf wsX10_normOf) := goodIn_app (goodIn_of _ (by decide +kernel)) ggX10_greatestNorm_X10_normOf
theorem dX10_greatestNorm_0 : decode cX10_greatestNorm 0 = .ok (.lconst 0, 1) := by decide +kernel
theorem dX10_greatestNorm_1 : decode cX10_greatestNorm 1 = .ok (.lstore_n 1, 1) := by decide +kernel
theorem dX10_greatestNorm_2 : decode cX10_greatestNorm 2 = .ok (.iconst 0, 1) := by decide +kernel
theorem dX10_greatestNorm_3 : decode cX10_greatestNorm 3 = .ok (.istore_n 3, 1) := by decide +kernel
theorem dX10_greatestNorm_4 : decode cX10_greatestNorm 4 = .ok (.iload_n 3, 1) := by decide +kernel
theorem dX10_greatestNorm_5 : decode cX10_greatestNorm 5 = .ok (.iconst 3, 1) := by decide +kernel
theorem dX10_greatestNorm_6 : decode cX10_greatestNorm 6 = .ok (.if_icmp .ge 29, 3) := by decide +kernel
theorem dX10_greatestNorm_9 : decode cX10_greatestNorm 9 = .ok (.aload_n 0, 1) := by decide +kernel
theorem dX10_greatestNorm_10 : decode cX10_greatestNorm 10 = .ok (.iload_n 3, 1) := by decide +kernel
theorem dX10_greatestNorm_11 : decode cX10_greatestNorm 11 = .ok (.invokevirtual 261, 3) := by decide +kernel
theorem dX10_greatestNorm_14 : decode cX10_greatestNorm 14 = .ok (.lload_n 1, 1) := by decide +kernel
theorem dX10_greatestNorm_15 : decode cX10_greatestNorm 15 = .ok (.lcmp, 1) := by decide +kernel
theorem dX10_greatestNorm_16 : decode cX10_greatestNorm 16 = .ok (.ifCond .le 11, 3) := by decide +kernel
theorem dX10_greatestNorm_19 : decode cX10_greatestNorm 19 = .ok (.aload_n 0, 1) := by decide +kernel
theorem dX10_greatestNorm_20 : decode cX10_greatestNorm 20 = .ok (.iload_n 3, 1) := by decide +kernel
theorem dX10_greatestNorm_21 : decode cX10_greatestNorm 21 = .ok (.invokevirtual 261, 3) := by decide +kernel
theorem dX10_greatestNorm_24 : decode cX10_greatestNorm 24 = .ok (.goto 4, 3) := by decide +kernel
theorem dX10_greatestNorm_27 : decode cX10_greatestNorm 27 = .ok (.lload_n 1, 1) := by decide +kernel
theorem dX10_greatestNorm_28 : decode cX10_greatestNorm 28 = .ok (.lstore_n 1, 1) := by decide +kernel
theorem dX10_greatestNorm_29 : decode cX10_greatestNorm 29 = .ok (.iinc 3 1, 3) := by decide +kernel
theorem dX10_greatestNorm_32 : decode cX10_greatestNorm 32 = .ok (.goto (-28), 3) := by decide +kernel
theorem dX10_greatestNorm_35 : decode cX10_greatestNorm 35 = .ok (.lload_n 1, 1) := by decide +kernel
theorem dX10_greatestNorm_36 : decode cX10_greatestNorm 36 = .ok (.lreturn, 1) := by decide +kernel
set_option maxRecDepth 20000 in
theorem ggX10_trips_X10_isBus : GoodIn wsX10_trips wsX10_isBus := goodIn_r _ [11, 12, 13, 14, 10, 15, 45, 46, 47, 48, 49, 50, 51, 52, 53, 54, 55, 56, 57, 58, 59, 60, 61, 62, 63, 64, 65, 66, 67, 68, 69, 70] (by decide +kernel) (by decide +kernel)
set_option maxRecDepth 20000 in
theorem gX10_trips_X10_isBus : GoodIn wsX10_trips (wsV RX10 142 RX10 yX10_isBus wsX10_isBus) := goodIn_app (goodIn_of _ (by decide +kernel)) ggX10_trips_X10_isBus
set_option maxRecDepth 20000 in
theorem ggX10_trips_X10_isSort : GoodIn wsX10_trips wsX10_isSort := goodIn_r _ [18, 19, 20, 13, 14, 10, 15] (by decide +kernel) (by decide +kernel)
set_option maxRecDepth 20000 in
theorem gX10_trips_X10_isSort : GoodIn wsX10_trips (va_wsS RX10 252 yX10_isSort wsX10_isSort) := goodIn_app (goodIn_of _ (by decide +kernel)) ggX10_trips_X10_isSort
set_option maxRecDepth 20000 in
theorem ggX10_trips_X10_layFault : GoodIn wsX10_trips wsX10_layFault := goodIn_r _ [24, 19, 25, 26, 4, 27, 28, 29, 10, 30, 31, 5, 45, 46, 47, 48, 49, 50, 51, 52, 53, 54, 55, 56, 57, 58, 59, 60, 61, 62, 63, 64, 65, 66, 67, 68, 69, 70] (by decide +kernel) (by decide +kernel)
set_option maxRecDepth 20000 in
theorem gX10_trips_X10_layFault : GoodIn wsX10_trips (wsV RX10 255 RX10 yX10_layFault wsX10_layFault) := goodIn_app (goodIn_of _ (by decide +kernel)) ggX10_trips_X10_layFault
set_option maxRecDepth 20000 in
theorem ggX10_trips_X10_layPhases : GoodIn wsX10_trips wsX10_layPhases := goodIn_r _ [35, 36, 25, 45, 46, 47, 48, 49, 50, 51, 52, 53, 54, 55, 56, 57, 58, 59, 60, 61, 62, 63, 64, 65, 66, 67, 68, 69, 70] (by decide +kernel) (by decide +kernel)
set_option maxRecDepth 20000 in
theorem gX10_trips_X10_layPhases : GoodIn wsX10_trips (wsV RX10 258 RX10 yX10_layPhases wsX10_layPhases) := goodIn_app (goodIn_of _ (by decide +kernel)) ggX10_trips_X10_layPhases
set_option maxRecDepth 20000 in
theorem ggX10_trips_X10_greatestNorm : GoodIn wsX10_trips wsX10_greatestNorm := goodIn_r _ [40, 41, 42, 43, 10, 44, 36, 45, 46, 47, 48, 49, 50, 51, 52, 53, 54, 55, 56, 57, 58, 59, 60, 61, 62, 63, 64, 65, 66, 67, 68, 69, 70] (by decide +kernel) (by decide +kernel)
set_option maxRecDepth 20000 in
theorem gX10_trips_X10_greatestNorm : GoodIn wsX10_trips (wsV RX10 278 RX10 yX10_greatestNorm wsX10_greatestNorm) := goodIn_app (goodIn_of _ (by decide +kernel)) ggX10_trips_X10_greatestNorm
theorem dX10_trips_0 : decode cX10_trips 0 = .ok (.aload_n 0, 1) := by decide +kernel
theorem dX10_trips_1 : decode cX10_trips 1 = .ok (.iload_n 2, 1) := by decide +kernel
theorem dX10_trips_2 : decode cX10_trips 2 = .ok (.invokevirtual 142, 3) := by decide +kernel
theorem dX10_trips_5 : decode cX10_trips 5 = .ok (.ifCond .ne 6, 3) := by decide +kernel
theorem dX10_trips_8 : decode cX10_trips 8 = .ok (.ldc 145, 2) := by decide +kernel
theorem dX10_trips_10 : decode cX10_trips 10 = .ok (.ireturn, 1) := by decide +kernel
theorem dX10_trips_11 : decode cX10_trips 11 = .ok (.iload_n 1, 1) := by decide +kernel
theorem dX10_trips_12 : decode cX10_trips 12 = .ok (.iload_n 3, 1) := by decide +kernel
theorem dX10_trips_13 : decode cX10_trips 13 = .ok (.invokestatic 252, 3) := by decide +kernel
theorem dX10_trips_16 : decode cX10_trips 16 = .ok (.ifCond .ne 6, 3) := by decide +kernel
theorem dX10_trips_19 : decode cX10_trips 19 = .ok (.ldc 70, 2) := by decide +kernel
theorem dX10_trips_21 : decode cX10_trips 21 = .ok (.ireturn, 1) := by decide +kernel
theorem dX10_trips_22 : decode cX10_trips 22 = .ok (.aload_n 0, 1) := by decide +kernel
theorem dX10_trips_23 : decode cX10_trips 23 = .ok (.iload_n 1, 1) := by decide +kernel
theorem dX10_trips_24 : decode cX10_trips 24 = .ok (.iload_n 2, 1) := by decide +kernel
theorem dX10_trips_25 : decode cX10_trips 25 = .ok (.iload_n 3, 1) := by decide +kernel
theorem dX10_trips_26 : decode cX10_trips 26 = .ok (.invokevirtual 255, 3) := by decide +kernel
theorem dX10_trips_29 : decode cX10_trips 29 = .ok (.aload_n 0, 1) := by decide +kernel
theorem dX10_trips_30 : decode cX10_trips 30 = .ok (.invokevirtual 258, 3) := by decide +kernel
theorem dX10_trips_33 : decode cX10_trips 33 = .ok (.iconst 0, 1) := by decide +kernel
theorem dX10_trips_34 : decode cX10_trips 34 = .ok (.istore 4, 2) := by decide +kernel
theorem dX10_trips_36 : decode cX10_trips 36 = .ok (.iload_n 2, 1) := by decide +kernel
theorem dX10_trips_37 : decode cX10_trips 37 = .ok (.istore 5, 2) := by decide +kernel
theorem dX10_trips_39 : decode cX10_trips 39 = .ok (.iload 5, 2) := by decide +kernel
theorem dX10_trips_41 : decode cX10_trips 41 = .ok (.ifCond .le 66, 3) := by decide +kernel
theorem dX10_trips_44 : decode cX10_trips 44 = .ok (.aload_n 0, 1) := by decide +kernel
theorem dX10_trips_45 : decode cX10_trips 45 = .ok (.getfield 30, 3) := by decide +kernel
theorem dX10_trips_48 : decode cX10_trips 48 = .ok (.iload 5, 2) := by decide +kernel
theorem dX10_trips_50 : decode cX10_trips 50 = .ok (.iaload, 1) := by decide +kernel
theorem dX10_trips_51 : decode cX10_trips 51 = .ok (.i2l, 1) := by decide +kernel
theorem dX10_trips_52 : decode cX10_trips 52 = .ok (.aload_n 0, 1) := by decide +kernel
theorem dX10_trips_53 : decode cX10_trips 53 = .ok (.getfield 243, 3) := by decide +kernel
theorem dX10_trips_56 : decode cX10_trips 56 = .ok (.lmul, 1) := by decide +kernel
theorem dX10_trips_57 : decode cX10_trips 57 = .ok (.lstore 6, 2) := by decide +kernel
theorem dX10_trips_59 : decode cX10_trips 59 = .ok (.iload 4, 2) := by decide +kernel
theorem dX10_trips_61 : decode cX10_trips 61 = .ok (.aload_n 0, 1) := by decide +kernel
theorem dX10_trips_62 : decode cX10_trips 62 = .ok (.getfield 30, 3) := by decide +kernel
theorem dX10_trips_65 : decode cX10_trips 65 = .ok (.iload 5, 2) := by decide +kernel
theorem dX10_trips_67 : decode cX10_trips 67 = .ok (.iaload, 1) := by decide +kernel
theorem dX10_trips_68 : decode cX10_trips 68 = .ok (.ifCond .le 23, 3) := by decide +kernel
theorem dX10_trips_71 : decode cX10_trips 71 = .ok (.aload_n 0, 1) := by decide +kernel
theorem dX10_trips_72 : decode cX10_trips 72 = .ok (.invokevirtual 278, 3) := by decide +kernel
theorem dX10_trips_75 : decode cX10_trips 75 = .ok (.lload 6, 2) := by decide +kernel
theorem dX10_trips_77 : decode cX10_trips 77 = .ok (.lload 6, 2) := by decide +kernel
theorem dX10_trips_79 : decode cX10_trips 79 = .ok (.lmul, 1) := by decide +kernel
theorem dX10_trips_80 : decode cX10_trips 80 = .ok (.lcmp, 1) := by decide +kernel
theorem dX10_trips_81 : decode cX10_trips 81 = .ok (.ifCond .le 10, 3) := by decide +kernel
theorem dX10_trips_84 : decode cX10_trips 84 = .ok (.iconst 1, 1) := by decide +kernel
theorem dX10_trips_85 : decode cX10_trips 85 = .ok (.iload 5, 2) := by decide +kernel
theorem dX10_trips_87 : decode cX10_trips 87 = .ok (.ishl, 1) := by decide +kernel
theorem dX10_trips_88 : decode cX10_trips 88 = .ok (.goto 4, 3) := by decide +kernel
theorem dX10_trips_91 : decode cX10_trips 91 = .ok (.iconst 0, 1) := by decide +kernel
theorem dX10_trips_92 : decode cX10_trips 92 = .ok (.ior, 1) := by decide +kernel
theorem dX10_trips_93 : decode cX10_trips 93 = .ok (.istore 4, 2) := by decide +kernel
theorem dX10_trips_95 : decode cX10_trips 95 = .ok (.aload_n 0, 1) := by decide +kernel
theorem dX10_trips_96 : decode cX10_trips 96 = .ok (.getfield 23, 3) := by decide +kernel
theorem dX10_trips_99 : decode cX10_trips 99 = .ok (.iload 5, 2) := by decide +kernel
theorem dX10_trips_101 : decode cX10_trips 101 = .ok (.iaload, 1) := by decide +kernel
theorem dX10_trips_102 : decode cX10_trips 102 = .ok (.istore 5, 2) := by decide +kernel
theorem dX10_trips_104 : decode cX10_trips 104 = .ok (.goto (-65), 3) := by decide +kernel
theorem dX10_trips_107 : decode cX10_trips 107 = .ok (.aload_n 0, 1) := by decide +kernel
theorem dX10_trips_108 : decode cX10_trips 108 = .ok (.getfield 243, 3) := by decide +kernel
theorem dX10_trips_111 : decode cX10_trips 111 = .ok (.lconst 0, 1) := by decide +kernel
theorem dX10_trips_112 : decode cX10_trips 112 = .ok (.lcmp, 1) := by decide +kernel
theorem dX10_trips_113 : decode cX10_trips 113 = .ok (.ifCond .ne 8, 3) := by decide +kernel
theorem dX10_trips_116 : decode cX10_trips 116 = .ok (.ldc 74, 2) := by decide +kernel
theorem dX10_trips_118 : decode cX10_trips 118 = .ok (.goto 5, 3) := by decide +kernel
theorem dX10_trips_121 : decode cX10_trips 121 = .ok (.iload 4, 2) := by decide +kernel
theorem dX10_trips_123 : decode cX10_trips 123 = .ok (.ireturn, 1) := by decide +kernel
set_option maxRecDepth 20000 in
theorem ggX10_worst_X10_isSort : GoodIn wsX10_worst wsX10_isSort := goodIn_r _ [7, 8, 9, 10, 11, 6, 12] (by decide +kernel) (by decide +kernel)
set_option maxRecDepth 20000 in
theorem gX10_worst_X10_isSort : GoodIn wsX10_worst (va_wsS RX10 252 yX10_isSort wsX10_isSort) := goodIn_app (goodIn_of _ (by decide +kernel)) ggX10_worst_X10_isSort
set_option maxRecDepth 20000 in
theorem ggX10_worst_X10_layFault : GoodIn wsX10_worst wsX10_layFault := goodIn_r _ [16, 8, 17, 18, 3, 19, 20, 21, 6, 22, 23, 24, 38, 39, 40, 41, 42, 43, 44, 45, 46, 47, 48, 49, 50, 51, 52, 53, 54, 55, 56, 57, 58, 59, 60, 61, 62, 63] (by decide +kernel) (by decide +kernel)
set_option maxRecDepth 20000 in
theorem gX10_worst_X10_layFault : GoodIn wsX10_worst (wsV RX10 255 RX10 yX10_layFault wsX10_layFault) := goodIn_app (goodIn_of _ (by decide +kernel)) ggX10_worst_X10_layFault
set_option maxRecDepth 20000 in
theorem ggX10_worst_X10_layPhases : GoodIn wsX10_worst wsX10_layPhases := goodIn_r _ [28, 29, 17, 38, 39, 40, 41, 42, 43, 44, 45, 46, 47, 48, 49, 50, 51, 52, 53, 54, 55, 56, 57, 58, 59, 60, 61, 62, 63] (by decide +kernel) (by decide +kernel)
set_option maxRecDepth 20000 in
theorem gX10_worst_X10_layPhases : GoodIn wsX10_worst (wsV RX10 258 RX10 yX10_layPhases wsX10_layPhases) := goodIn_app (goodIn_of _ (by decide +kernel)) ggX10_worst_X10_layPhases
set_option maxRecDepth 20000 in
theorem ggX10_worst_X10_greatestNorm : GoodIn wsX10_worst wsX10_greatestNorm := goodIn_r _ [33, 34, 35, 36, 6, 37, 29, 38, 39, 40, 41, 42, 43, 44, 45, 46, 47, 48, 49, 50, 51, 52, 53, 54, 55, 56, 57, 58, 59, 60, 61, 62, 63] (by decide +kernel) (by decide +kernel)
set_option maxRecDepth 20000 in
theorem gX10_worst_X10_greatestNorm : GoodIn wsX10_worst (wsV RX10 278 RX10 yX10_greatestNorm wsX10_greatestNorm) := goodIn_app (goodIn_of _ (by decide +kernel)) ggX10_worst_X10_greatestNorm
theorem dX10_worst_0 : decode cX10_worst 0 = .ok (.iload_n 1, 1) := by decide +kernel
theorem dX10_worst_1 : decode cX10_worst 1 = .ok (.iload_n 2, 1) := by decide +kernel
theorem dX10_worst_2 : decode cX10_worst 2 = .ok (.invokestatic 252, 3) := by decide +kernel
theorem dX10_worst_5 : decode cX10_worst 5 = .ok (.ifCond .ne 6, 3) := by decide +kernel
theorem dX10_worst_8 : decode cX10_worst 8 = .ok (.ldc 70, 2) := by decide +kernel
theorem dX10_worst_10 : decode cX10_worst 10 = .ok (.ireturn, 1) := by decide +kernel
theorem dX10_worst_11 : decode cX10_worst 11 = .ok (.iconst (-1), 1) := by decide +kernel
theorem dX10_worst_12 : decode cX10_worst 12 = .ok (.istore_n 3, 1) := by decide +kernel
theorem dX10_worst_13 : decode cX10_worst 13 = .ok (.lconst 0, 1) := by decide +kernel
theorem dX10_worst_14 : decode cX10_worst 14 = .ok (.lstore 4, 2) := by decide +kernel
theorem dX10_worst_16 : decode cX10_worst 16 = .ok (.lconst 1, 1) := by decide +kernel
theorem dX10_worst_17 : decode cX10_worst 17 = .ok (.lstore 6, 2) := by decide +kernel
theorem dX10_worst_19 : decode cX10_worst 19 = .ok (.iconst 0, 1) := by decide +kernel
theorem dX10_worst_20 : decode cX10_worst 20 = .ok (.istore 8, 2) := by decide +kernel
theorem dX10_worst_22 : decode cX10_worst 22 = .ok (.iload 8, 2) := by decide +kernel
theorem dX10_worst_24 : decode cX10_worst 24 = .ok (.aload_n 0, 1) := by decide +kernel
theorem dX10_worst_25 : decode cX10_worst 25 = .ok (.getfield 20, 3) := by decide +kernel
theorem dX10_worst_28 : decode cX10_worst 28 = .ok (.if_icmp .ge 78, 3) := by decide +kernel
theorem dX10_worst_31 : decode cX10_worst 31 = .ok (.aload_n 0, 1) := by decide +kernel
theorem dX10_worst_32 : decode cX10_worst 32 = .ok (.iload_n 1, 1) := by decide +kernel
theorem dX10_worst_33 : decode cX10_worst 33 = .ok (.iload 8, 2) := by decide +kernel
theorem dX10_worst_35 : decode cX10_worst 35 = .ok (.iload_n 2, 1) := by decide +kernel
theorem dX10_worst_36 : decode cX10_worst 36 = .ok (.invokevirtual 255, 3) := by decide +kernel
theorem dX10_worst_39 : decode cX10_worst 39 = .ok (.aload_n 0, 1) := by decide +kernel
theorem dX10_worst_40 : decode cX10_worst 40 = .ok (.invokevirtual 258, 3) := by decide +kernel
theorem dX10_worst_43 : decode cX10_worst 43 = .ok (.aload_n 0, 1) := by decide +kernel
theorem dX10_worst_44 : decode cX10_worst 44 = .ok (.getfield 243, 3) := by decide +kernel
theorem dX10_worst_47 : decode cX10_worst 47 = .ok (.lconst 0, 1) := by decide +kernel
theorem dX10_worst_48 : decode cX10_worst 48 = .ok (.lcmp, 1) := by decide +kernel
theorem dX10_worst_49 : decode cX10_worst 49 = .ok (.ifCond .eq 51, 3) := by decide +kernel
theorem dX10_worst_52 : decode cX10_worst 52 = .ok (.iload_n 3, 1) := by decide +kernel
theorem dX10_worst_53 : decode cX10_worst 53 = .ok (.iconst (-1), 1) := by decide +kernel
theorem dX10_worst_54 : decode cX10_worst 54 = .ok (.if_icmp .eq 26, 3) := by decide +kernel
theorem dX10_worst_57 : decode cX10_worst 57 = .ok (.aload_n 0, 1) := by decide +kernel
theorem dX10_worst_58 : decode cX10_worst 58 = .ok (.invokevirtual 278, 3) := by decide +kernel
theorem dX10_worst_61 : decode cX10_worst 61 = .ok (.lload 6, 2) := by decide +kernel
theorem dX10_worst_63 : decode cX10_worst 63 = .ok (.lmul, 1) := by decide +kernel
theorem dX10_worst_64 : decode cX10_worst 64 = .ok (.lload 4, 2) := by decide +kernel
theorem dX10_worst_66 : decode cX10_worst 66 = .ok (.aload_n 0, 1) := by decide +kernel
theorem dX10_worst_67 : decode cX10_worst 67 = .ok (.getfield 243, 3) := by decide +kernel
theorem dX10_worst_70 : decode cX10_worst 70 = .ok (.lmul, 1) := by decide +kernel
theorem dX10_worst_71 : decode cX10_worst 71 = .ok (.aload_n 0, 1) := by decide +kernel
theorem dX10_worst_72 : decode cX10_worst 72 = .ok (.getfield 243, 3) := by decide +kernel
theorem dX10_worst_75 : decode cX10_worst 75 = .ok (.lmul, 1) := by decide +kernel
theorem dX10_worst_76 : decode cX10_worst 76 = .ok (.lcmp, 1) := by decide +kernel
theorem dX10_worst_77 : decode cX10_worst 77 = .ok (.ifCond .le 23, 3) := by decide +kernel
theorem dX10_worst_80 : decode cX10_worst 80 = .ok (.iload 8, 2) := by decide +kernel
theorem dX10_worst_82 : decode cX10_worst 82 = .ok (.istore_n 3, 1) := by decide +kernel
theorem dX10_worst_83 : decode cX10_worst 83 = .ok (.aload_n 0, 1) := by decide +kernel
theorem dX10_worst_84 : decode cX10_worst 84 = .ok (.invokevirtual 278, 3) := by decide +kernel
theorem dX10_worst_87 : decode cX10_worst 87 = .ok (.lstore 4, 2) := by decide +kernel
theorem dX10_worst_89 : decode cX10_worst 89 = .ok (.aload_n 0, 1) := by decide +kernel
theorem dX10_worst_90 : decode cX10_worst 90 = .ok (.getfield 243, 3) := by decide +kernel
theorem dX10_worst_93 : decode cX10_worst 93 = .ok (.aload_n 0, 1) := by decide +kernel
theorem dX10_worst_94 : decode cX10_worst 94 = .ok (.getfield 243, 3) := by decide +kernel
theorem dX10_worst_97 : decode cX10_worst 97 = .ok (.lmul, 1) := by decide +kernel
theorem dX10_worst_98 : decode cX10_worst 98 = .ok (.lstore 6, 2) := by decide +kernel
theorem dX10_worst_100 : decode cX10_worst 100 = .ok (.iinc 8 1, 3) := by decide +kernel
theorem dX10_worst_103 : decode cX10_worst 103 = .ok (.goto (-81), 3) := by decide +kernel
theorem dX10_worst_106 : decode cX10_worst 106 = .ok (.iload_n 3, 1) := by decide +kernel
theorem dX10_worst_107 : decode cX10_worst 107 = .ok (.ireturn, 1) := by decide +kernel
set_option maxRecDepth 20000 in
theorem ggX10_isAsPhases_X10_lay : GoodIn wsX10_isAsPhases wsX10_lay := goodIn_r _ [9, 3, 4, 10, 11, 8, 12, 13, 14, 15, 16, 17, 18, 19, 20, 21, 22, 23, 24, 25, 26, 27, 28, 29, 30, 31, 32, 33, 34, 35, 36, 37, 38] (by decide +kernel) (by decide +kernel)
set_option maxRecDepth 20000 in
theorem gX10_isAsPhases_X10_lay : GoodIn wsX10_isAsPhases (wsV RX10 158 RX10 yX10_lay wsX10_lay) := goodIn_app (goodIn_of _ (by decide +kernel)) ggX10_isAsPhases_X10_lay
theorem dX10_isAsPhases_0 : decode cX10_isAsPhases 0 = .ok (.aload_n 0, 1) := by decide +kernel
theorem dX10_isAsPhases_1 : decode cX10_isAsPhases 1 = .ok (.getfield 243, 3) := by decide +kernel
theorem dX10_isAsPhases_4 : decode cX10_isAsPhases 4 = .ok (.lconst 0, 1) := by decide +kernel
theorem dX10_isAsPhases_5 : decode cX10_isAsPhases 5 = .ok (.lcmp, 1) := by decide +kernel
theorem dX10_isAsPhases_6 : decode cX10_isAsPhases 6 = .ok (.ifCond .eq 7, 3) := by decide +kernel
theorem dX10_isAsPhases_9 : decode cX10_isAsPhases 9 = .ok (.iconst 1, 1) := by decide +kernel
theorem dX10_isAsPhases_10 : decode cX10_isAsPhases 10 = .ok (.goto 4, 3) := by decide +kernel
theorem dX10_isAsPhases_13 : decode cX10_isAsPhases 13 = .ok (.iconst 0, 1) := by decide +kernel
theorem dX10_isAsPhases_14 : decode cX10_isAsPhases 14 = .ok (.istore_n 1, 1) := by decide +kernel
theorem dX10_isAsPhases_15 : decode cX10_isAsPhases 15 = .ok (.iconst 0, 1) := by decide +kernel
theorem dX10_isAsPhases_16 : decode cX10_isAsPhases 16 = .ok (.istore_n 2, 1) := by decide +kernel
theorem dX10_isAsPhases_17 : decode cX10_isAsPhases 17 = .ok (.iload_n 2, 1) := by decide +kernel
theorem dX10_isAsPhases_18 : decode cX10_isAsPhases 18 = .ok (.bipush 6, 2) := by decide +kernel
theorem dX10_isAsPhases_20 : decode cX10_isAsPhases 20 = .ok (.if_icmp .ge 69, 3) := by decide +kernel
theorem dX10_isAsPhases_23 : decode cX10_isAsPhases 23 = .ok (.iload_n 1, 1) := by decide +kernel
theorem dX10_isAsPhases_24 : decode cX10_isAsPhases 24 = .ok (.ifCond .eq 65, 3) := by decide +kernel
theorem dX10_isAsPhases_27 : decode cX10_isAsPhases 27 = .ok (.aload_n 0, 1) := by decide +kernel
theorem dX10_isAsPhases_28 : decode cX10_isAsPhases 28 = .ok (.bipush 78, 2) := by decide +kernel
theorem dX10_isAsPhases_30 : decode cX10_isAsPhases 30 = .ok (.aload_n 0, 1) := by decide +kernel
theorem dX10_isAsPhases_31 : decode cX10_isAsPhases 31 = .ok (.getfield 61, 3) := by decide +kernel
theorem dX10_isAsPhases_34 : decode cX10_isAsPhases 34 = .ok (.iload_n 2, 1) := by decide +kernel
theorem dX10_isAsPhases_35 : decode cX10_isAsPhases 35 = .ok (.laload, 1) := by decide +kernel
theorem dX10_isAsPhases_36 : decode cX10_isAsPhases 36 = .ok (.aload_n 0, 1) := by decide +kernel
theorem dX10_isAsPhases_37 : decode cX10_isAsPhases 37 = .ok (.getfield 243, 3) := by decide +kernel
theorem dX10_isAsPhases_40 : decode cX10_isAsPhases 40 = .ok (.invokevirtual 158, 3) := by decide +kernel
theorem dX10_isAsPhases_43 : decode cX10_isAsPhases 43 = .ok (.aload_n 0, 1) := by decide +kernel
theorem dX10_isAsPhases_44 : decode cX10_isAsPhases 44 = .ok (.getfield 7, 3) := by decide +kernel
theorem dX10_isAsPhases_47 : decode cX10_isAsPhases 47 = .ok (.bipush 78, 2) := by decide +kernel
theorem dX10_isAsPhases_49 : decode cX10_isAsPhases 49 = .ok (.laload, 1) := by decide +kernel
theorem dX10_isAsPhases_50 : decode cX10_isAsPhases 50 = .ok (.aload_n 0, 1) := by decide +kernel
theorem dX10_isAsPhases_51 : decode cX10_isAsPhases 51 = .ok (.getfield 7, 3) := by decide +kernel
theorem dX10_isAsPhases_54 : decode cX10_isAsPhases 54 = .ok (.iload_n 2, 1) := by decide +kernel
theorem dX10_isAsPhases_55 : decode cX10_isAsPhases 55 = .ok (.laload, 1) := by decide +kernel
theorem dX10_isAsPhases_56 : decode cX10_isAsPhases 56 = .ok (.lcmp, 1) := by decide +kernel
theorem dX10_isAsPhases_57 : decode cX10_isAsPhases 57 = .ok (.ifCond .ne 24, 3) := by decide +kernel
theorem dX10_isAsPhases_60 : decode cX10_isAsPhases 60 = .ok (.aload_n 0, 1) := by decide +kernel
theorem dX10_isAsPhases_61 : decode cX10_isAsPhases 61 = .ok (.getfield 13, 3) := by decide +kernel
theorem dX10_isAsPhases_64 : decode cX10_isAsPhases 64 = .ok (.bipush 78, 2) := by decide +kernel
theorem dX10_isAsPhases_66 : decode cX10_isAsPhases 66 = .ok (.laload, 1) := by decide +kernel
theorem dX10_isAsPhases_67 : decode cX10_isAsPhases 67 = .ok (.aload_n 0, 1) := by decide +kernel
theorem dX10_isAsPhases_68 : decode cX10_isAsPhases 68 = .ok (.getfield 13, 3) := by decide +kernel
theorem dX10_isAsPhases_71 : decode cX10_isAsPhases 71 = .ok (.iload_n 2, 1) := by decide +kernel
theorem dX10_isAsPhases_72 : decode cX10_isAsPhases 72 = .ok (.laload, 1) := by decide +kernel
theorem dX10_isAsPhases_73 : decode cX10_isAsPhases 73 = .ok (.lcmp, 1) := by decide +kernel
theorem dX10_isAsPhases_74 : decode cX10_isAsPhases 74 = .ok (.ifCond .ne 7, 3) := by decide +kernel
theorem dX10_isAsPhases_77 : decode cX10_isAsPhases 77 = .ok (.iconst 1, 1) := by decide +kernel
theorem dX10_isAsPhases_78 : decode cX10_isAsPhases 78 = .ok (.goto 4, 3) := by decide +kernel
theorem dX10_isAsPhases_81 : decode cX10_isAsPhases 81 = .ok (.iconst 0, 1) := by decide +kernel
theorem dX10_isAsPhases_82 : decode cX10_isAsPhases 82 = .ok (.istore_n 1, 1) := by decide +kernel
theorem dX10_isAsPhases_83 : decode cX10_isAsPhases 83 = .ok (.iinc 2 1, 3) := by decide +kernel
theorem dX10_isAsPhases_86 : decode cX10_isAsPhases 86 = .ok (.goto (-69), 3) := by decide +kernel
theorem dX10_isAsPhases_89 : decode cX10_isAsPhases 89 = .ok (.iload_n 1, 1) := by decide +kernel
theorem dX10_isAsPhases_90 : decode cX10_isAsPhases 90 = .ok (.ireturn, 1) := by decide +kernel
set_option maxRecDepth 20000 in
theorem ggX10_match_X10_in : GoodIn wsX10_match wsX10_in := goodIn_r _ [6] (by decide +kernel) (by decide +kernel)
set_option maxRecDepth 20000 in
theorem gX10_match_X10_in : GoodIn wsX10_match (va_wsS RX10 66 yX10_in wsX10_in) := goodIn_app (goodIn_of _ (by decide +kernel)) ggX10_match_X10_in
set_option maxRecDepth 20000 in
theorem ggX10_match_X10_layFault : GoodIn wsX10_match wsX10_layFault := goodIn_r _ [10, 11, 12, 13, 14, 15, 16, 17, 5, 18, 19, 20, 39, 40, 41, 42, 43, 44, 45, 46, 47, 48, 49, 50, 51, 52, 53, 54, 55, 56, 57, 58, 59, 60, 61, 62, 63, 64] (by decide +kernel) (by decide +kernel)
set_option maxRecDepth 20000 in
theorem gX10_match_X10_layFault : GoodIn wsX10_match (wsV RX10 255 RX10 yX10_layFault wsX10_layFault) := goodIn_app (goodIn_of _ (by decide +kernel)) ggX10_match_X10_layFault
set_option maxRecDepth 20000 in
theorem ggX10_match_X10_layPhases : GoodIn wsX10_match wsX10_layPhases := goodIn_r _ [24, 25, 12, 39, 40, 41, 42, 43, 44, 45, 46, 47, 48, 49, 50, 51, 52, 53, 54, 55, 56, 57, 58, 59, 60, 61, 62, 63, 64] (by decide +kernel) (by decide +kernel)
set_option maxRecDepth 20000 in
theorem gX10_match_X10_layPhases : GoodIn wsX10_match (wsV RX10 258 RX10 yX10_layPhases wsX10_layPhases) := goodIn_app (goodIn_of _ (by decide +kernel)) ggX10_match_X10_layPhases
set_option maxRecDepth 20000 in
theorem ggX10_match_X10_isAsPhases : GoodIn wsX10_match wsX10_isAsPhases := goodIn_r _ [29, 14, 25, 30, 31, 32, 33, 34, 5, 35, 36, 37, 38, 39, 40, 41, 42, 43, 44, 45, 46, 47, 48, 49, 50, 51, 52, 53, 54, 55, 56, 57, 58, 59, 60, 61, 62, 63, 64] (by decide +kernel) (by decide +kernel)
set_option maxRecDepth 20000 in
theorem gX10_match_X10_isAsPhases : GoodIn wsX10_match (wsV RX10 282 RX10 yX10_isAsPhases wsX10_isAsPhases) := goodIn_app (goodIn_of _ (by decide +kernel)) ggX10_match_X10_isAsPhases
theorem dX10_match_0 : decode cX10_match 0 = .ok (.iload_n 1, 1) := by decide +kernel
theorem dX10_match_1 : decode cX10_match 1 = .ok (.i2l, 1) := by decide +kernel
theorem dX10_match_2 : decode cX10_match 2 = .ok (.lconst 0, 1) := by decide +kernel
theorem dX10_match_3 : decode cX10_match 3 = .ok (.lconst 1, 1) := by decide +kernel
theorem dX10_match_4 : decode cX10_match 4 = .ok (.invokestatic 66, 3) := by decide +kernel
theorem dX10_match_7 : decode cX10_match 7 = .ok (.ifCond .ne 6, 3) := by decide +kernel
theorem dX10_match_10 : decode cX10_match 10 = .ok (.ldc 70, 2) := by decide +kernel
theorem dX10_match_12 : decode cX10_match 12 = .ok (.ireturn, 1) := by decide +kernel
theorem dX10_match_13 : decode cX10_match 13 = .ok (.iconst 0, 1) := by decide +kernel
theorem dX10_match_14 : decode cX10_match 14 = .ok (.istore_n 2, 1) := by decide +kernel
theorem dX10_match_15 : decode cX10_match 15 = .ok (.iconst (-1), 1) := by decide +kernel
theorem dX10_match_16 : decode cX10_match 16 = .ok (.istore_n 3, 1) := by decide +kernel
theorem dX10_match_17 : decode cX10_match 17 = .ok (.iconst 0, 1) := by decide +kernel
theorem dX10_match_18 : decode cX10_match 18 = .ok (.istore 4, 2) := by decide +kernel
theorem dX10_match_20 : decode cX10_match 20 = .ok (.iload 4, 2) := by decide +kernel
theorem dX10_match_22 : decode cX10_match 22 = .ok (.iconst 4, 1) := by decide +kernel
theorem dX10_match_23 : decode cX10_match 23 = .ok (.if_icmp .ge 90, 3) := by decide +kernel
theorem dX10_match_26 : decode cX10_match 26 = .ok (.iconst 0, 1) := by decide +kernel
theorem dX10_match_27 : decode cX10_match 27 = .ok (.istore 5, 2) := by decide +kernel
theorem dX10_match_29 : decode cX10_match 29 = .ok (.iload 5, 2) := by decide +kernel
theorem dX10_match_31 : decode cX10_match 31 = .ok (.bipush 10, 2) := by decide +kernel
theorem dX10_match_33 : decode cX10_match 33 = .ok (.aload_n 0, 1) := by decide +kernel
theorem dX10_match_34 : decode cX10_match 34 = .ok (.getfield 20, 3) := by decide +kernel
theorem dX10_match_37 : decode cX10_match 37 = .ok (.imul, 1) := by decide +kernel
theorem dX10_match_38 : decode cX10_match 38 = .ok (.if_icmp .ge 69, 3) := by decide +kernel
theorem dX10_match_41 : decode cX10_match 41 = .ok (.aload_n 0, 1) := by decide +kernel
theorem dX10_match_42 : decode cX10_match 42 = .ok (.iload 4, 2) := by decide +kernel
theorem dX10_match_44 : decode cX10_match 44 = .ok (.iload 5, 2) := by decide +kernel
theorem dX10_match_46 : decode cX10_match 46 = .ok (.bipush 10, 2) := by decide +kernel
theorem dX10_match_48 : decode cX10_match 48 = .ok (.idiv, 1) := by decide +kernel
theorem dX10_match_49 : decode cX10_match 49 = .ok (.iload 5, 2) := by decide +kernel
theorem dX10_match_51 : decode cX10_match 51 = .ok (.bipush 10, 2) := by decide +kernel
theorem dX10_match_53 : decode cX10_match 53 = .ok (.irem, 1) := by decide +kernel
theorem dX10_match_54 : decode cX10_match 54 = .ok (.invokevirtual 255, 3) := by decide +kernel
theorem dX10_match_57 : decode cX10_match 57 = .ok (.aload_n 0, 1) := by decide +kernel
theorem dX10_match_58 : decode cX10_match 58 = .ok (.invokevirtual 258, 3) := by decide +kernel
theorem dX10_match_61 : decode cX10_match 61 = .ok (.aload_n 0, 1) := by decide +kernel
theorem dX10_match_62 : decode cX10_match 62 = .ok (.invokevirtual 282, 3) := by decide +kernel
theorem dX10_match_65 : decode cX10_match 65 = .ok (.ifCond .eq 36, 3) := by decide +kernel
theorem dX10_match_68 : decode cX10_match 68 = .ok (.iload_n 2, 1) := by decide +kernel
theorem dX10_match_69 : decode cX10_match 69 = .ok (.ifCond .ne 27, 3) := by decide +kernel
theorem dX10_match_72 : decode cX10_match 72 = .ok (.sipush 10000, 3) := by decide +kernel
theorem dX10_match_75 : decode cX10_match 75 = .ok (.iload 4, 2) := by decide +kernel
theorem dX10_match_77 : decode cX10_match 77 = .ok (.imul, 1) := by decide +kernel
theorem dX10_match_78 : decode cX10_match 78 = .ok (.bipush 100, 2) := by decide +kernel
theorem dX10_match_80 : decode cX10_match 80 = .ok (.iload 5, 2) := by decide +kernel
theorem dX10_match_82 : decode cX10_match 82 = .ok (.bipush 10, 2) := by decide +kernel
theorem dX10_match_84 : decode cX10_match 84 = .ok (.idiv, 1) := by decide +kernel
theorem dX10_match_85 : decode cX10_match 85 = .ok (.imul, 1) := by decide +kernel
theorem dX10_match_86 : decode cX10_match 86 = .ok (.iadd, 1) := by decide +kernel
theorem dX10_match_87 : decode cX10_match 87 = .ok (.iload 5, 2) := by decide +kernel
theorem dX10_match_89 : decode cX10_match 89 = .ok (.bipush 10, 2) := by decide +kernel
theorem dX10_match_91 : decode cX10_match 91 = .ok (.irem, 1) := by decide +kernel
theorem dX10_match_92 : decode cX10_match 92 = .ok (.iadd, 1) := by decide +kernel
theorem dX10_match_93 : decode cX10_match 93 = .ok (.goto 4, 3) := by decide +kernel
theorem dX10_match_96 : decode cX10_match 96 = .ok (.iload_n 3, 1) := by decide +kernel
theorem dX10_match_97 : decode cX10_match 97 = .ok (.istore_n 3, 1) := by decide +kernel
theorem dX10_match_98 : decode cX10_match 98 = .ok (.iinc 2 1, 3) := by decide +kernel
theorem dX10_match_101 : decode cX10_match 101 = .ok (.iinc 5 1, 3) := by decide +kernel
theorem dX10_match_104 : decode cX10_match 104 = .ok (.goto (-75), 3) := by decide +kernel
theorem dX10_match_107 : decode cX10_match 107 = .ok (.iinc 4 1, 3) := by decide +kernel
theorem dX10_match_110 : decode cX10_match 110 = .ok (.goto (-90), 3) := by decide +kernel
theorem dX10_match_113 : decode cX10_match 113 = .ok (.iload_n 1, 1) := by decide +kernel
theorem dX10_match_114 : decode cX10_match 114 = .ok (.ifCond .ne 7, 3) := by decide +kernel
theorem dX10_match_117 : decode cX10_match 117 = .ok (.iload_n 2, 1) := by decide +kernel
theorem dX10_match_118 : decode cX10_match 118 = .ok (.goto 4, 3) := by decide +kernel
theorem dX10_match_121 : decode cX10_match 121 = .ok (.iload_n 3, 1) := by decide +kernel
theorem dX10_match_122 : decode cX10_match 122 = .ok (.ireturn, 1) := by decide +kernel
set_option maxRecDepth 20000 in
theorem ggX10_isStore_X10_in : GoodIn wsX10_isStore wsX10_in := goodIn_r _ [5] (by decide +kernel) (by decide +kernel)
set_option maxRecDepth 20000 in
theorem gX10_isStore_X10_in : GoodIn wsX10_isStore (va_wsS RX10 66 yX10_in wsX10_in) := goodIn_app (goodIn_of _ (by decide +kernel)) ggX10_isStore_X10_in
theorem dX10_isStore_0 : decode cX10_isStore 0 = .ok (.iload_n 0, 1) := by decide +kernel
theorem dX10_isStore_1 : decode cX10_isStore 1 = .ok (.i2l, 1) := by decide +kernel
theorem dX10_isStore_2 : decode cX10_isStore 2 = .ok (.lconst 0, 1) := by decide +kernel
theorem dX10_isStore_3 : decode cX10_isStore 3 = .ok (.ldc2_w 197, 3) := by decide +kernel
theorem dX10_isStore_6 : decode cX10_isStore 6 = .ok (.invokestatic 66, 3) := by decide +kernel
theorem dX10_isStore_9 : decode cX10_isStore 9 = .ok (.ireturn, 1) := by decide +kernel
set_option maxRecDepth 20000 in
theorem ggX10_store_X10_isStore : GoodIn wsX10_store wsX10_isStore := goodIn_r _ [6, 7, 8, 9, 5, 10] (by decide +kernel) (by decide +kernel)
set_option maxRecDepth 20000 in
theorem gX10_store_X10_isStore : GoodIn wsX10_store (va_wsS RX10 285 yX10_isStore wsX10_isStore) := goodIn_app (goodIn_of _ (by decide +kernel)) ggX10_store_X10_isStore
theorem dX10_store_0 : decode cX10_store 0 = .ok (.iload_n 1, 1) := by decide +kernel
theorem dX10_store_1 : decode cX10_store 1 = .ok (.invokestatic 285, 3) := by decide +kernel
theorem dX10_store_4 : decode cX10_store 4 = .ok (.ifCond .ne 6, 3) := by decide +kernel
theorem dX10_store_7 : decode cX10_store 7 = .ok (.ldc 145, 2) := by decide +kernel
theorem dX10_store_9 : decode cX10_store 9 = .ok (.ireturn, 1) := by decide +kernel
theorem dX10_store_10 : decode cX10_store 10 = .ok (.aload_n 0, 1) := by decide +kernel
theorem dX10_store_11 : decode cX10_store 11 = .ok (.getfield 40, 3) := by decide +kernel
theorem dX10_store_14 : decode cX10_store 14 = .ok (.iload_n 1, 1) := by decide +kernel
theorem dX10_store_15 : decode cX10_store 15 = .ok (.iconst 0, 1) := by decide +kernel
theorem dX10_store_16 : decode cX10_store 16 = .ok (.iastore, 1) := by decide +kernel
theorem dX10_store_17 : decode cX10_store 17 = .ok (.iconst 0, 1) := by decide +kernel
theorem dX10_store_18 : decode cX10_store 18 = .ok (.ireturn, 1) := by decide +kernel
set_option maxRecDepth 20000 in
theorem ggX10_put_X10_isStore : GoodIn wsX10_put wsX10_isStore := goodIn_r _ [14, 15, 16, 17, 13, 18] (by decide +kernel) (by decide +kernel)
set_option maxRecDepth 20000 in
theorem gX10_put_X10_isStore : GoodIn wsX10_put (va_wsS RX10 285 yX10_isStore wsX10_isStore) := goodIn_app (goodIn_of _ (by decide +kernel)) ggX10_put_X10_isStore
set_option maxRecDepth 20000 in
theorem ggX10_put_X10_in : GoodIn wsX10_put wsX10_in := goodIn_r _ [18] (by decide +kernel) (by decide +kernel)
set_option maxRecDepth 20000 in
theorem gX10_put_X10_in : GoodIn wsX10_put (va_wsS RX10 66 yX10_in wsX10_in) := goodIn_app (goodIn_of _ (by decide +kernel)) ggX10_put_X10_in
theorem dX10_put_0 : decode cX10_put 0 = .ok (.iload_n 1, 1) := by decide +kernel
theorem dX10_put_1 : decode cX10_put 1 = .ok (.invokestatic 285, 3) := by decide +kernel
theorem dX10_put_4 : decode cX10_put 4 = .ok (.ifCond .ne 6, 3) := by decide +kernel
theorem dX10_put_7 : decode cX10_put 7 = .ok (.ldc 145, 2) := by decide +kernel
theorem dX10_put_9 : decode cX10_put 9 = .ok (.ireturn, 1) := by decide +kernel
theorem dX10_put_10 : decode cX10_put 10 = .ok (.iload_n 2, 1) := by decide +kernel
theorem dX10_put_11 : decode cX10_put 11 = .ok (.i2l, 1) := by decide +kernel
theorem dX10_put_12 : decode cX10_put 12 = .ok (.lconst 0, 1) := by decide +kernel
theorem dX10_put_13 : decode cX10_put 13 = .ok (.lconst 1, 1) := by decide +kernel
theorem dX10_put_14 : decode cX10_put 14 = .ok (.invokestatic 66, 3) := by decide +kernel
theorem dX10_put_17 : decode cX10_put 17 = .ok (.ifCond .eq 32, 3) := by decide +kernel
theorem dX10_put_20 : decode cX10_put 20 = .ok (.iload_n 3, 1) := by decide +kernel
theorem dX10_put_21 : decode cX10_put 21 = .ok (.i2l, 1) := by decide +kernel
theorem dX10_put_22 : decode cX10_put 22 = .ok (.ldc2_w 202, 3) := by decide +kernel
theorem dX10_put_25 : decode cX10_put 25 = .ok (.ldc2_w 204, 3) := by decide +kernel
theorem dX10_put_28 : decode cX10_put 28 = .ok (.invokestatic 66, 3) := by decide +kernel
theorem dX10_put_31 : decode cX10_put 31 = .ok (.ifCond .eq 18, 3) := by decide +kernel
theorem dX10_put_34 : decode cX10_put 34 = .ok (.iload 4, 2) := by decide +kernel
theorem dX10_put_36 : decode cX10_put 36 = .ok (.i2l, 1) := by decide +kernel
theorem dX10_put_37 : decode cX10_put 37 = .ok (.ldc2_w 202, 3) := by decide +kernel
theorem dX10_put_40 : decode cX10_put 40 = .ok (.ldc2_w 204, 3) := by decide +kernel
theorem dX10_put_43 : decode cX10_put 43 = .ok (.invokestatic 66, 3) := by decide +kernel
theorem dX10_put_46 : decode cX10_put 46 = .ok (.ifCond .ne 6, 3) := by decide +kernel
theorem dX10_put_49 : decode cX10_put 49 = .ok (.ldc 70, 2) := by decide +kernel
theorem dX10_put_51 : decode cX10_put 51 = .ok (.ireturn, 1) := by decide +kernel
theorem dX10_put_52 : decode cX10_put 52 = .ok (.aload_n 0, 1) := by decide +kernel
theorem dX10_put_53 : decode cX10_put 53 = .ok (.getfield 40, 3) := by decide +kernel
theorem dX10_put_56 : decode cX10_put 56 = .ok (.iload_n 1, 1) := by decide +kernel
theorem dX10_put_57 : decode cX10_put 57 = .ok (.iaload, 1) := by decide +kernel
theorem dX10_put_58 : decode cX10_put 58 = .ok (.ifCond .ge 7, 3) := by decide +kernel
theorem dX10_put_61 : decode cX10_put 61 = .ok (.ldc_w 288, 3) := by decide +kernel
theorem dX10_put_64 : decode cX10_put 64 = .ok (.ireturn, 1) := by decide +kernel
theorem dX10_put_65 : decode cX10_put 65 = .ok (.aload_n 0, 1) := by decide +kernel
theorem dX10_put_66 : decode cX10_put 66 = .ok (.getfield 40, 3) := by decide +kernel
theorem dX10_put_69 : decode cX10_put 69 = .ok (.iload_n 1, 1) := by decide +kernel
theorem dX10_put_70 : decode cX10_put 70 = .ok (.iaload, 1) := by decide +kernel
theorem dX10_put_71 : decode cX10_put 71 = .ok (.bipush 8, 2) := by decide +kernel
theorem dX10_put_73 : decode cX10_put 73 = .ok (.if_icmp .ne 7, 3) := by decide +kernel
theorem dX10_put_76 : decode cX10_put 76 = .ok (.ldc_w 289, 3) := by decide +kernel
theorem dX10_put_79 : decode cX10_put 79 = .ok (.ireturn, 1) := by decide +kernel
theorem dX10_put_80 : decode cX10_put 80 = .ok (.bipush 8, 2) := by decide +kernel
theorem dX10_put_82 : decode cX10_put 82 = .ok (.iload_n 1, 1) := by decide +kernel
theorem dX10_put_83 : decode cX10_put 83 = .ok (.imul, 1) := by decide +kernel
theorem dX10_put_84 : decode cX10_put 84 = .ok (.aload_n 0, 1) := by decide +kernel
theorem dX10_put_85 : decode cX10_put 85 = .ok (.getfield 40, 3) := by decide +kernel
theorem dX10_put_88 : decode cX10_put 88 = .ok (.iload_n 1, 1) := by decide +kernel
theorem dX10_put_89 : decode cX10_put 89 = .ok (.iaload, 1) := by decide +kernel
theorem dX10_put_90 : decode cX10_put 90 = .ok (.iadd, 1) := by decide +kernel
theorem dX10_put_91 : decode cX10_put 91 = .ok (.istore 5, 2) := by decide +kernel
theorem dX10_put_93 : decode cX10_put 93 = .ok (.aload_n 0, 1) := by decide +kernel
theorem dX10_put_94 : decode cX10_put 94 = .ok (.getfield 43, 3) := by decide +kernel
theorem dX10_put_97 : decode cX10_put 97 = .ok (.iload 5, 2) := by decide +kernel
theorem dX10_put_99 : decode cX10_put 99 = .ok (.iload_n 2, 1) := by decide +kernel
theorem dX10_put_100 : decode cX10_put 100 = .ok (.iastore, 1) := by decide +kernel
theorem dX10_put_101 : decode cX10_put 101 = .ok (.aload_n 0, 1) := by decide +kernel
theorem dX10_put_102 : decode cX10_put 102 = .ok (.getfield 46, 3) := by decide +kernel
theorem dX10_put_105 : decode cX10_put 105 = .ok (.iload 5, 2) := by decide +kernel
theorem dX10_put_107 : decode cX10_put 107 = .ok (.iload_n 3, 1) := by decide +kernel
theorem dX10_put_108 : decode cX10_put 108 = .ok (.iastore, 1) := by decide +kernel
theorem dX10_put_109 : decode cX10_put 109 = .ok (.aload_n 0, 1) := by decide +kernel
theorem dX10_put_110 : decode cX10_put 110 = .ok (.getfield 49, 3) := by decide +kernel
theorem dX10_put_113 : decode cX10_put 113 = .ok (.iload 5, 2) := by decide +kernel
theorem dX10_put_115 : decode cX10_put 115 = .ok (.iload_n 2, 1) := by decide +kernel
theorem dX10_put_116 : decode cX10_put 116 = .ok (.iconst 1, 1) := by decide +kernel
theorem dX10_put_117 : decode cX10_put 117 = .ok (.if_icmp .ne 8, 3) := by decide +kernel
theorem dX10_put_120 : decode cX10_put 120 = .ok (.iload 4, 2) := by decide +kernel
theorem dX10_put_122 : decode cX10_put 122 = .ok (.goto 4, 3) := by decide +kernel
theorem dX10_put_125 : decode cX10_put 125 = .ok (.iconst 0, 1) := by decide +kernel
theorem dX10_put_126 : decode cX10_put 126 = .ok (.iastore, 1) := by decide +kernel
theorem dX10_put_127 : decode cX10_put 127 = .ok (.aload_n 0, 1) := by decide +kernel
theorem dX10_put_128 : decode cX10_put 128 = .ok (.getfield 40, 3) := by decide +kernel
theorem dX10_put_131 : decode cX10_put 131 = .ok (.iload_n 1, 1) := by decide +kernel
theorem dX10_put_132 : decode cX10_put 132 = .ok (.dup2, 1) := by decide +kernel
theorem dX10_put_133 : decode cX10_put 133 = .ok (.iaload, 1) := by decide +kernel
theorem dX10_put_134 : decode cX10_put 134 = .ok (.iconst 1, 1) := by decide +kernel
theorem dX10_put_135 : decode cX10_put 135 = .ok (.iadd, 1) := by decide +kernel
theorem dX10_put_136 : decode cX10_put 136 = .ok (.iastore, 1) := by decide +kernel
theorem dX10_put_137 : decode cX10_put 137 = .ok (.aload_n 0, 1) := by decide +kernel
theorem dX10_put_138 : decode cX10_put 138 = .ok (.getfield 40, 3) := by decide +kernel
theorem dX10_put_141 : decode cX10_put 141 = .ok (.iload_n 1, 1) := by decide +kernel
theorem dX10_put_142 : decode cX10_put 142 = .ok (.iaload, 1) := by decide +kernel
theorem dX10_put_143 : decode cX10_put 143 = .ok (.ireturn, 1) := by decide +kernel
set_option maxRecDepth 20000 in
theorem ggX10_take_X10_isStore : GoodIn wsX10_take wsX10_isStore := goodIn_r _ [13, 14, 15, 16, 12, 17] (by decide +kernel) (by decide +kernel)
set_option maxRecDepth 20000 in
theorem gX10_take_X10_isStore : GoodIn wsX10_take (va_wsS RX10 285 yX10_isStore wsX10_isStore) := goodIn_app (goodIn_of _ (by decide +kernel)) ggX10_take_X10_isStore
set_option maxRecDepth 20000 in
theorem ggX10_take_X10_in : GoodIn wsX10_take wsX10_in := goodIn_r _ [17] (by decide +kernel) (by decide +kernel)
set_option maxRecDepth 20000 in
theorem gX10_take_X10_in : GoodIn wsX10_take (va_wsS RX10 66 yX10_in wsX10_in) := goodIn_app (goodIn_of _ (by decide +kernel)) ggX10_take_X10_in
theorem dX10_take_0 : decode cX10_take 0 = .ok (.iload_n 1, 1) := by decide +kernel
theorem dX10_take_1 : decode cX10_take 1 = .ok (.invokestatic 285, 3) := by decide +kernel
theorem dX10_take_4 : decode cX10_take 4 = .ok (.ifCond .ne 6, 3) := by decide +kernel
theorem dX10_take_7 : decode cX10_take 7 = .ok (.ldc 145, 2) := by decide +kernel
theorem dX10_take_9 : decode cX10_take 9 = .ok (.ireturn, 1) := by decide +kernel
theorem dX10_take_10 : decode cX10_take 10 = .ok (.iload_n 2, 1) := by decide +kernel
theorem dX10_take_11 : decode cX10_take 11 = .ok (.i2l, 1) := by decide +kernel
theorem dX10_take_12 : decode cX10_take 12 = .ok (.lconst 0, 1) := by decide +kernel
theorem dX10_take_13 : decode cX10_take 13 = .ok (.lconst 1, 1) := by decide +kernel
theorem dX10_take_14 : decode cX10_take 14 = .ok (.invokestatic 66, 3) := by decide +kernel
theorem dX10_take_17 : decode cX10_take 17 = .ok (.ifCond .ne 6, 3) := by decide +kernel
theorem dX10_take_20 : decode cX10_take 20 = .ok (.ldc 70, 2) := by decide +kernel
theorem dX10_take_22 : decode cX10_take 22 = .ok (.ireturn, 1) := by decide +kernel
theorem dX10_take_23 : decode cX10_take 23 = .ok (.aload_n 0, 1) := by decide +kernel
theorem dX10_take_24 : decode cX10_take 24 = .ok (.getfield 40, 3) := by decide +kernel
theorem dX10_take_27 : decode cX10_take 27 = .ok (.iload_n 1, 1) := by decide +kernel
theorem dX10_take_28 : decode cX10_take 28 = .ok (.iaload, 1) := by decide +kernel
theorem dX10_take_29 : decode cX10_take 29 = .ok (.iconst 1, 1) := by decide +kernel
theorem dX10_take_30 : decode cX10_take 30 = .ok (.if_icmp .ge 22, 3) := by decide +kernel
theorem dX10_take_33 : decode cX10_take 33 = .ok (.aload_n 0, 1) := by decide +kernel
theorem dX10_take_34 : decode cX10_take 34 = .ok (.getfield 40, 3) := by decide +kernel
theorem dX10_take_37 : decode cX10_take 37 = .ok (.iload_n 1, 1) := by decide +kernel
theorem dX10_take_38 : decode cX10_take 38 = .ok (.iaload, 1) := by decide +kernel
theorem dX10_take_39 : decode cX10_take 39 = .ok (.ifCond .ge 9, 3) := by decide +kernel
theorem dX10_take_42 : decode cX10_take 42 = .ok (.ldc_w 288, 3) := by decide +kernel
theorem dX10_take_45 : decode cX10_take 45 = .ok (.goto 6, 3) := by decide +kernel
theorem dX10_take_48 : decode cX10_take 48 = .ok (.ldc_w 290, 3) := by decide +kernel
theorem dX10_take_51 : decode cX10_take 51 = .ok (.ireturn, 1) := by decide +kernel
theorem dX10_take_52 : decode cX10_take 52 = .ok (.bipush 8, 2) := by decide +kernel
theorem dX10_take_54 : decode cX10_take 54 = .ok (.iload_n 1, 1) := by decide +kernel
theorem dX10_take_55 : decode cX10_take 55 = .ok (.imul, 1) := by decide +kernel
theorem dX10_take_56 : decode cX10_take 56 = .ok (.aload_n 0, 1) := by decide +kernel
theorem dX10_take_57 : decode cX10_take 57 = .ok (.getfield 40, 3) := by decide +kernel
theorem dX10_take_60 : decode cX10_take 60 = .ok (.iload_n 1, 1) := by decide +kernel
theorem dX10_take_61 : decode cX10_take 61 = .ok (.iaload, 1) := by decide +kernel
theorem dX10_take_62 : decode cX10_take 62 = .ok (.iadd, 1) := by decide +kernel
theorem dX10_take_63 : decode cX10_take 63 = .ok (.iconst 1, 1) := by decide +kernel
theorem dX10_take_64 : decode cX10_take 64 = .ok (.isub, 1) := by decide +kernel
theorem dX10_take_65 : decode cX10_take 65 = .ok (.istore_n 3, 1) := by decide +kernel
theorem dX10_take_66 : decode cX10_take 66 = .ok (.aload_n 0, 1) := by decide +kernel
theorem dX10_take_67 : decode cX10_take 67 = .ok (.getfield 43, 3) := by decide +kernel
theorem dX10_take_70 : decode cX10_take 70 = .ok (.iload_n 3, 1) := by decide +kernel
theorem dX10_take_71 : decode cX10_take 71 = .ok (.iaload, 1) := by decide +kernel
theorem dX10_take_72 : decode cX10_take 72 = .ok (.iload_n 2, 1) := by decide +kernel
theorem dX10_take_73 : decode cX10_take 73 = .ok (.if_icmp .eq 7, 3) := by decide +kernel
theorem dX10_take_76 : decode cX10_take 76 = .ok (.ldc_w 291, 3) := by decide +kernel
theorem dX10_take_79 : decode cX10_take 79 = .ok (.ireturn, 1) := by decide +kernel
theorem dX10_take_80 : decode cX10_take 80 = .ok (.aload_n 0, 1) := by decide +kernel
theorem dX10_take_81 : decode cX10_take 81 = .ok (.getfield 40, 3) := by decide +kernel
theorem dX10_take_84 : decode cX10_take 84 = .ok (.iload_n 1, 1) := by decide +kernel
theorem dX10_take_85 : decode cX10_take 85 = .ok (.dup2, 1) := by decide +kernel
theorem dX10_take_86 : decode cX10_take 86 = .ok (.iaload, 1) := by decide +kernel
theorem dX10_take_87 : decode cX10_take 87 = .ok (.iconst 1, 1) := by decide +kernel
theorem dX10_take_88 : decode cX10_take 88 = .ok (.isub, 1) := by decide +kernel
theorem dX10_take_89 : decode cX10_take 89 = .ok (.iastore, 1) := by decide +kernel
theorem dX10_take_90 : decode cX10_take 90 = .ok (.aload_n 0, 1) := by decide +kernel
theorem dX10_take_91 : decode cX10_take 91 = .ok (.getfield 46, 3) := by decide +kernel
theorem dX10_take_94 : decode cX10_take 94 = .ok (.iload_n 3, 1) := by decide +kernel
theorem dX10_take_95 : decode cX10_take 95 = .ok (.iaload, 1) := by decide +kernel
theorem dX10_take_96 : decode cX10_take 96 = .ok (.istore 4, 2) := by decide +kernel
theorem dX10_take_98 : decode cX10_take 98 = .ok (.aload_n 0, 1) := by decide +kernel
theorem dX10_take_99 : decode cX10_take 99 = .ok (.getfield 49, 3) := by decide +kernel
theorem dX10_take_102 : decode cX10_take 102 = .ok (.iload_n 3, 1) := by decide +kernel
theorem dX10_take_103 : decode cX10_take 103 = .ok (.iaload, 1) := by decide +kernel
theorem dX10_take_104 : decode cX10_take 104 = .ok (.istore 5, 2) := by decide +kernel
theorem dX10_take_106 : decode cX10_take 106 = .ok (.iload_n 2, 1) := by decide +kernel
theorem dX10_take_107 : decode cX10_take 107 = .ok (.ifCond .ne 8, 3) := by decide +kernel
theorem dX10_take_110 : decode cX10_take 110 = .ok (.iload 4, 2) := by decide +kernel
theorem dX10_take_112 : decode cX10_take 112 = .ok (.goto 20, 3) := by decide +kernel
theorem dX10_take_115 : decode cX10_take 115 = .ok (.iload 4, 2) := by decide +kernel
theorem dX10_take_117 : decode cX10_take 117 = .ok (.iload 4, 2) := by decide +kernel
theorem dX10_take_119 : decode cX10_take 119 = .ok (.imul, 1) := by decide +kernel
theorem dX10_take_120 : decode cX10_take 120 = .ok (.iload 4, 2) := by decide +kernel
theorem dX10_take_122 : decode cX10_take 122 = .ok (.iload 5, 2) := by decide +kernel
theorem dX10_take_124 : decode cX10_take 124 = .ok (.imul, 1) := by decide +kernel
theorem dX10_take_125 : decode cX10_take 125 = .ok (.isub, 1) := by decide +kernel
theorem dX10_take_126 : decode cX10_take 126 = .ok (.iload 5, 2) := by decide +kernel
theorem dX10_take_128 : decode cX10_take 128 = .ok (.iload 5, 2) := by decide +kernel
theorem dX10_take_130 : decode cX10_take 130 = .ok (.imul, 1) := by decide +kernel
theorem dX10_take_131 : decode cX10_take 131 = .ok (.iadd, 1) := by decide +kernel
theorem dX10_take_132 : decode cX10_take 132 = .ok (.ireturn, 1) := by decide +kernel
set_option maxRecDepth 20000 in
theorem ggX10_sum_X10_isStore : GoodIn wsX10_sum wsX10_isStore := goodIn_r _ [12, 2, 13, 14, 11, 15] (by decide +kernel) (by decide +kernel)
set_option maxRecDepth 20000 in
theorem gX10_sum_X10_isStore : GoodIn wsX10_sum (va_wsS RX10 285 yX10_isStore wsX10_isStore) := goodIn_app (goodIn_of _ (by decide +kernel)) ggX10_sum_X10_isStore
set_option maxRecDepth 20000 in
theorem ggX10_sum_X10_in : GoodIn wsX10_sum wsX10_in := goodIn_r _ [15] (by decide +kernel) (by decide +kernel)
set_option maxRecDepth 20000 in
theorem gX10_sum_X10_in : GoodIn wsX10_sum (va_wsS RX10 66 yX10_in wsX10_in) := goodIn_app (goodIn_of _ (by decide +kernel)) ggX10_sum_X10_in
theorem dX10_sum_0 : decode cX10_sum 0 = .ok (.iload_n 1, 1) := by decide +kernel
theorem dX10_sum_1 : decode cX10_sum 1 = .ok (.invokestatic 285, 3) := by decide +kernel
theorem dX10_sum_4 : decode cX10_sum 4 = .ok (.ifCond .ne 6, 3) := by decide +kernel
theorem dX10_sum_7 : decode cX10_sum 7 = .ok (.ldc 145, 2) := by decide +kernel
theorem dX10_sum_9 : decode cX10_sum 9 = .ok (.ireturn, 1) := by decide +kernel
theorem dX10_sum_10 : decode cX10_sum 10 = .ok (.iload_n 2, 1) := by decide +kernel
theorem dX10_sum_11 : decode cX10_sum 11 = .ok (.i2l, 1) := by decide +kernel
theorem dX10_sum_12 : decode cX10_sum 12 = .ok (.lconst 0, 1) := by decide +kernel
theorem dX10_sum_13 : decode cX10_sum 13 = .ok (.ldc2_w 197, 3) := by decide +kernel
theorem dX10_sum_16 : decode cX10_sum 16 = .ok (.invokestatic 66, 3) := by decide +kernel
theorem dX10_sum_19 : decode cX10_sum 19 = .ok (.ifCond .ne 6, 3) := by decide +kernel
theorem dX10_sum_22 : decode cX10_sum 22 = .ok (.ldc 70, 2) := by decide +kernel
theorem dX10_sum_24 : decode cX10_sum 24 = .ok (.ireturn, 1) := by decide +kernel
theorem dX10_sum_25 : decode cX10_sum 25 = .ok (.aload_n 0, 1) := by decide +kernel
theorem dX10_sum_26 : decode cX10_sum 26 = .ok (.getfield 40, 3) := by decide +kernel
theorem dX10_sum_29 : decode cX10_sum 29 = .ok (.iload_n 1, 1) := by decide +kernel
theorem dX10_sum_30 : decode cX10_sum 30 = .ok (.iaload, 1) := by decide +kernel
theorem dX10_sum_31 : decode cX10_sum 31 = .ok (.ifCond .ge 7, 3) := by decide +kernel
theorem dX10_sum_34 : decode cX10_sum 34 = .ok (.ldc_w 288, 3) := by decide +kernel
theorem dX10_sum_37 : decode cX10_sum 37 = .ok (.ireturn, 1) := by decide +kernel
theorem dX10_sum_38 : decode cX10_sum 38 = .ok (.iconst 0, 1) := by decide +kernel
theorem dX10_sum_39 : decode cX10_sum 39 = .ok (.istore_n 3, 1) := by decide +kernel
theorem dX10_sum_40 : decode cX10_sum 40 = .ok (.iconst 0, 1) := by decide +kernel
theorem dX10_sum_41 : decode cX10_sum 41 = .ok (.istore 4, 2) := by decide +kernel
theorem dX10_sum_43 : decode cX10_sum 43 = .ok (.iconst 0, 1) := by decide +kernel
theorem dX10_sum_44 : decode cX10_sum 44 = .ok (.istore 5, 2) := by decide +kernel
theorem dX10_sum_46 : decode cX10_sum 46 = .ok (.bipush 8, 2) := by decide +kernel
theorem dX10_sum_48 : decode cX10_sum 48 = .ok (.iload_n 1, 1) := by decide +kernel
theorem dX10_sum_49 : decode cX10_sum 49 = .ok (.imul, 1) := by decide +kernel
theorem dX10_sum_50 : decode cX10_sum 50 = .ok (.istore 6, 2) := by decide +kernel
theorem dX10_sum_52 : decode cX10_sum 52 = .ok (.iload 6, 2) := by decide +kernel
theorem dX10_sum_54 : decode cX10_sum 54 = .ok (.bipush 8, 2) := by decide +kernel
theorem dX10_sum_56 : decode cX10_sum 56 = .ok (.iload_n 1, 1) := by decide +kernel
theorem dX10_sum_57 : decode cX10_sum 57 = .ok (.imul, 1) := by decide +kernel
theorem dX10_sum_58 : decode cX10_sum 58 = .ok (.aload_n 0, 1) := by decide +kernel
theorem dX10_sum_59 : decode cX10_sum 59 = .ok (.getfield 40, 3) := by decide +kernel
theorem dX10_sum_62 : decode cX10_sum 62 = .ok (.iload_n 1, 1) := by decide +kernel
theorem dX10_sum_63 : decode cX10_sum 63 = .ok (.iaload, 1) := by decide +kernel
theorem dX10_sum_64 : decode cX10_sum 64 = .ok (.iadd, 1) := by decide +kernel
theorem dX10_sum_65 : decode cX10_sum 65 = .ok (.if_icmp .ge 43, 3) := by decide +kernel
theorem dX10_sum_68 : decode cX10_sum 68 = .ok (.iload_n 3, 1) := by decide +kernel
theorem dX10_sum_69 : decode cX10_sum 69 = .ok (.aload_n 0, 1) := by decide +kernel
theorem dX10_sum_70 : decode cX10_sum 70 = .ok (.getfield 46, 3) := by decide +kernel
theorem dX10_sum_73 : decode cX10_sum 73 = .ok (.iload 6, 2) := by decide +kernel
theorem dX10_sum_75 : decode cX10_sum 75 = .ok (.iaload, 1) := by decide +kernel
theorem dX10_sum_76 : decode cX10_sum 76 = .ok (.iadd, 1) := by decide +kernel
theorem dX10_sum_77 : decode cX10_sum 77 = .ok (.istore_n 3, 1) := by decide +kernel
theorem dX10_sum_78 : decode cX10_sum 78 = .ok (.iload 4, 2) := by decide +kernel
theorem dX10_sum_80 : decode cX10_sum 80 = .ok (.aload_n 0, 1) := by decide +kernel
theorem dX10_sum_81 : decode cX10_sum 81 = .ok (.getfield 49, 3) := by decide +kernel
theorem dX10_sum_84 : decode cX10_sum 84 = .ok (.iload 6, 2) := by decide +kernel
theorem dX10_sum_86 : decode cX10_sum 86 = .ok (.iaload, 1) := by decide +kernel
theorem dX10_sum_87 : decode cX10_sum 87 = .ok (.iadd, 1) := by decide +kernel
theorem dX10_sum_88 : decode cX10_sum 88 = .ok (.istore 4, 2) := by decide +kernel
theorem dX10_sum_90 : decode cX10_sum 90 = .ok (.iload 5, 2) := by decide +kernel
theorem dX10_sum_92 : decode cX10_sum 92 = .ok (.aload_n 0, 1) := by decide +kernel
theorem dX10_sum_93 : decode cX10_sum 93 = .ok (.getfield 43, 3) := by decide +kernel
theorem dX10_sum_96 : decode cX10_sum 96 = .ok (.iload 6, 2) := by decide +kernel
theorem dX10_sum_98 : decode cX10_sum 98 = .ok (.iaload, 1) := by decide +kernel
theorem dX10_sum_99 : decode cX10_sum 99 = .ok (.iadd, 1) := by decide +kernel
theorem dX10_sum_100 : decode cX10_sum 100 = .ok (.istore 5, 2) := by decide +kernel
theorem dX10_sum_102 : decode cX10_sum 102 = .ok (.iinc 6 1, 3) := by decide +kernel
theorem dX10_sum_105 : decode cX10_sum 105 = .ok (.goto (-53), 3) := by decide +kernel
theorem dX10_sum_108 : decode cX10_sum 108 = .ok (.iload_n 2, 1) := by decide +kernel
theorem dX10_sum_109 : decode cX10_sum 109 = .ok (.ifCond .ne 7, 3) := by decide +kernel
theorem dX10_sum_112 : decode cX10_sum 112 = .ok (.iload_n 3, 1) := by decide +kernel
theorem dX10_sum_113 : decode cX10_sum 113 = .ok (.goto 15, 3) := by decide +kernel
theorem dX10_sum_116 : decode cX10_sum 116 = .ok (.iload_n 2, 1) := by decide +kernel
theorem dX10_sum_117 : decode cX10_sum 117 = .ok (.iconst 1, 1) := by decide +kernel
theorem dX10_sum_118 : decode cX10_sum 118 = .ok (.if_icmp .ne 8, 3) := by decide +kernel
theorem dX10_sum_121 : decode cX10_sum 121 = .ok (.iload 4, 2) := by decide +kernel
theorem dX10_sum_123 : decode cX10_sum 123 = .ok (.goto 5, 3) := by decide +kernel
theorem dX10_sum_126 : decode cX10_sum 126 = .ok (.iload 5, 2) := by decide +kernel
theorem dX10_sum_128 : decode cX10_sum 128 = .ok (.ireturn, 1) := by decide +kernel
set_option maxRecDepth 20000 in
theorem ggX10_drop_X10_isStore : GoodIn wsX10_drop wsX10_isStore := goodIn_r _ [7, 8, 9, 10, 6, 11] (by decide +kernel) (by decide +kernel)
set_option maxRecDepth 20000 in
theorem gX10_drop_X10_isStore : GoodIn wsX10_drop (va_wsS RX10 285 yX10_isStore wsX10_isStore) := goodIn_app (goodIn_of _ (by decide +kernel)) ggX10_drop_X10_isStore
theorem dX10_drop_0 : decode cX10_drop 0 = .ok (.iload_n 1, 1) := by decide +kernel
theorem dX10_drop_1 : decode cX10_drop 1 = .ok (.invokestatic 285, 3) := by decide +kernel
theorem dX10_drop_4 : decode cX10_drop 4 = .ok (.ifCond .ne 6, 3) := by decide +kernel
theorem dX10_drop_7 : decode cX10_drop 7 = .ok (.ldc 145, 2) := by decide +kernel
theorem dX10_drop_9 : decode cX10_drop 9 = .ok (.ireturn, 1) := by decide +kernel
theorem dX10_drop_10 : decode cX10_drop 10 = .ok (.aload_n 0, 1) := by decide +kernel
theorem dX10_drop_11 : decode cX10_drop 11 = .ok (.getfield 40, 3) := by decide +kernel
theorem dX10_drop_14 : decode cX10_drop 14 = .ok (.iload_n 1, 1) := by decide +kernel
theorem dX10_drop_15 : decode cX10_drop 15 = .ok (.iaload, 1) := by decide +kernel
theorem dX10_drop_16 : decode cX10_drop 16 = .ok (.istore_n 2, 1) := by decide +kernel
theorem dX10_drop_17 : decode cX10_drop 17 = .ok (.aload_n 0, 1) := by decide +kernel
theorem dX10_drop_18 : decode cX10_drop 18 = .ok (.getfield 40, 3) := by decide +kernel
theorem dX10_drop_21 : decode cX10_drop 21 = .ok (.iload_n 1, 1) := by decide +kernel
theorem dX10_drop_22 : decode cX10_drop 22 = .ok (.iconst (-1), 1) := by decide +kernel
theorem dX10_drop_23 : decode cX10_drop 23 = .ok (.iastore, 1) := by decide +kernel
theorem dX10_drop_24 : decode cX10_drop 24 = .ok (.iload_n 2, 1) := by decide +kernel
theorem dX10_drop_25 : decode cX10_drop 25 = .ok (.ifCond .ge 9, 3) := by decide +kernel
theorem dX10_drop_28 : decode cX10_drop 28 = .ok (.ldc_w 288, 3) := by decide +kernel
theorem dX10_drop_31 : decode cX10_drop 31 = .ok (.goto 4, 3) := by decide +kernel
theorem dX10_drop_34 : decode cX10_drop 34 = .ok (.iload_n 2, 1) := by decide +kernel
theorem dX10_drop_35 : decode cX10_drop 35 = .ok (.ireturn, 1) := by decide +kernel
theorem dX10_allThings_0 : decode cX10_allThings 0 = .ok (.iconst 0, 1) := by decide +kernel
theorem dX10_allThings_1 : decode cX10_allThings 1 = .ok (.istore_n 1, 1) := by decide +kernel
theorem dX10_allThings_2 : decode cX10_allThings 2 = .ok (.iconst 0, 1) := by decide +kernel
theorem dX10_allThings_3 : decode cX10_allThings 3 = .ok (.istore_n 2, 1) := by decide +kernel
theorem dX10_allThings_4 : decode cX10_allThings 4 = .ok (.iload_n 2, 1) := by decide +kernel
theorem dX10_allThings_5 : decode cX10_allThings 5 = .ok (.iconst 3, 1) := by decide +kernel
theorem dX10_allThings_6 : decode cX10_allThings 6 = .ok (.if_icmp .ge 31, 3) := by decide +kernel
theorem dX10_allThings_9 : decode cX10_allThings 9 = .ok (.iload_n 1, 1) := by decide +kernel
theorem dX10_allThings_10 : decode cX10_allThings 10 = .ok (.aload_n 0, 1) := by decide +kernel
theorem dX10_allThings_11 : decode cX10_allThings 11 = .ok (.getfield 40, 3) := by decide +kernel
theorem dX10_allThings_14 : decode cX10_allThings 14 = .ok (.iload_n 2, 1) := by decide +kernel
theorem dX10_allThings_15 : decode cX10_allThings 15 = .ok (.iaload, 1) := by decide +kernel
theorem dX10_allThings_16 : decode cX10_allThings 16 = .ok (.ifCond .ge 7, 3) := by decide +kernel
theorem dX10_allThings_19 : decode cX10_allThings 19 = .ok (.iconst 0, 1) := by decide +kernel
theorem dX10_allThings_20 : decode cX10_allThings 20 = .ok (.goto 9, 3) := by decide +kernel
theorem dX10_allThings_23 : decode cX10_allThings 23 = .ok (.aload_n 0, 1) := by decide +kernel
theorem dX10_allThings_24 : decode cX10_allThings 24 = .ok (.getfield 40, 3) := by decide +kernel
theorem dX10_allThings_27 : decode cX10_allThings 27 = .ok (.iload_n 2, 1) := by decide +kernel
theorem dX10_allThings_28 : decode cX10_allThings 28 = .ok (.iaload, 1) := by decide +kernel
theorem dX10_allThings_29 : decode cX10_allThings 29 = .ok (.iadd, 1) := by decide +kernel
theorem dX10_allThings_30 : decode cX10_allThings 30 = .ok (.istore_n 1, 1) := by decide +kernel
theorem dX10_allThings_31 : decode cX10_allThings 31 = .ok (.iinc 2 1, 3) := by decide +kernel
theorem dX10_allThings_34 : decode cX10_allThings 34 = .ok (.goto (-30), 3) := by decide +kernel
theorem dX10_allThings_37 : decode cX10_allThings 37 = .ok (.iload_n 1, 1) := by decide +kernel
theorem dX10_allThings_38 : decode cX10_allThings 38 = .ok (.ireturn, 1) := by decide +kernel
set_option maxRecDepth 20000 in
theorem ggX10_count_X10_allThings : GoodIn wsX10_count wsX10_allThings := goodIn_r _ [10, 11, 12, 13, 14, 15, 16, 17, 18, 19, 20, 21, 22, 23, 24, 25, 26, 27, 28, 29, 30, 31, 32, 33, 34, 35, 36, 37] (by decide +kernel) (by decide +kernel)
set_option maxRecDepth 20000 in
theorem gX10_count_X10_allThings : GoodIn wsX10_count (wsV RX10 292 RX10 yX10_allThings wsX10_allThings) := goodIn_app (goodIn_of _ (by decide +kernel)) ggX10_count_X10_allThings
theorem dX10_count_0 : decode cX10_count 0 = .ok (.iload_n 1, 1) := by decide +kernel
theorem dX10_count_1 : decode cX10_count 1 = .ok (.tableswitch 60 0 4 #[35, 40, 45, 50, 55], 35) := by decide +kernel
theorem dX10_count_36 : decode cX10_count 36 = .ok (.aload_n 0, 1) := by decide +kernel
theorem dX10_count_37 : decode cX10_count 37 = .ok (.getfield 20, 3) := by decide +kernel
theorem dX10_count_40 : decode cX10_count 40 = .ok (.ireturn, 1) := by decide +kernel
theorem dX10_count_41 : decode cX10_count 41 = .ok (.aload_n 0, 1) := by decide +kernel
theorem dX10_count_42 : decode cX10_count 42 = .ok (.getfield 16, 3) := by decide +kernel
theorem dX10_count_45 : decode cX10_count 45 = .ok (.ireturn, 1) := by decide +kernel
theorem dX10_count_46 : decode cX10_count 46 = .ok (.aload_n 0, 1) := by decide +kernel
theorem dX10_count_47 : decode cX10_count 47 = .ok (.invokevirtual 292, 3) := by decide +kernel
theorem dX10_count_50 : decode cX10_count 50 = .ok (.ireturn, 1) := by decide +kernel
theorem dX10_count_51 : decode cX10_count 51 = .ok (.aload_n 0, 1) := by decide +kernel
theorem dX10_count_52 : decode cX10_count 52 = .ok (.getfield 139, 3) := by decide +kernel
theorem dX10_count_55 : decode cX10_count 55 = .ok (.ireturn, 1) := by decide +kernel
theorem dX10_count_56 : decode cX10_count 56 = .ok (.aload_n 0, 1) := by decide +kernel
theorem dX10_count_57 : decode cX10_count 57 = .ok (.getfield 71, 3) := by decide +kernel
theorem dX10_count_60 : decode cX10_count 60 = .ok (.ireturn, 1) := by decide +kernel
theorem dX10_count_61 : decode cX10_count 61 = .ok (.ldc 70, 2) := by decide +kernel
theorem dX10_count_63 : decode cX10_count 63 = .ok (.ireturn, 1) := by decide +kernel
theorem dJ9_max_f86c9_0 : decode cJ9_max_f86c9 0 = .ok (.lload_n 0, 1) := by decide +kernel
theorem dJ9_max_f86c9_1 : decode cJ9_max_f86c9 1 = .ok (.lload_n 2, 1) := by decide +kernel
theorem dJ9_max_f86c9_2 : decode cJ9_max_f86c9 2 = .ok (.lcmp, 1) := by decide +kernel
theorem dJ9_max_f86c9_3 : decode cJ9_max_f86c9 3 = .ok (.ifCond .lt 7, 3) := by decide +kernel
theorem dJ9_max_f86c9_6 : decode cJ9_max_f86c9 6 = .ok (.lload_n 0, 1) := by decide +kernel
theorem dJ9_max_f86c9_7 : decode cJ9_max_f86c9 7 = .ok (.goto 4, 3) := by decide +kernel
theorem dJ9_max_f86c9_10 : decode cJ9_max_f86c9 10 = .ok (.lload_n 2, 1) := by decide +kernel
theorem dJ9_max_f86c9_11 : decode cJ9_max_f86c9 11 = .ok (.lreturn, 1) := by decide +kernel
theorem dJ9_min_7cf53_0 : decode cJ9_min_7cf53 0 = .ok (.iload_n 0, 1) := by decide +kernel
theorem dJ9_min_7cf53_1 : decode cJ9_min_7cf53 1 = .ok (.iload_n 1, 1) := by decide +kernel
theorem dJ9_min_7cf53_2 : decode cJ9_min_7cf53 2 = .ok (.if_icmp .gt 7, 3) := by decide +kernel
theorem dJ9_min_7cf53_5 : decode cJ9_min_7cf53 5 = .ok (.iload_n 0, 1) := by decide +kernel
theorem dJ9_min_7cf53_6 : decode cJ9_min_7cf53 6 = .ok (.goto 4, 3) := by decide +kernel
theorem dJ9_min_7cf53_9 : decode cJ9_min_7cf53 9 = .ok (.iload_n 1, 1) := by decide +kernel
theorem dJ9_min_7cf53_10 : decode cJ9_min_7cf53 10 = .ok (.ireturn, 1) := by decide +kernel
theorem dJ9_min_f86c9_0 : decode cJ9_min_f86c9 0 = .ok (.lload_n 0, 1) := by decide +kernel
theorem dJ9_min_f86c9_1 : decode cJ9_min_f86c9 1 = .ok (.lload_n 2, 1) := by decide +kernel
theorem dJ9_min_f86c9_2 : decode cJ9_min_f86c9 2 = .ok (.lcmp, 1) := by decide +kernel
theorem dJ9_min_f86c9_3 : decode cJ9_min_f86c9 3 = .ok (.ifCond .gt 7, 3) := by decide +kernel
theorem dJ9_min_f86c9_6 : decode cJ9_min_f86c9 6 = .ok (.lload_n 0, 1) := by decide +kernel
theorem dJ9_min_f86c9_7 : decode cJ9_min_f86c9 7 = .ok (.goto 4, 3) := by decide +kernel
theorem dJ9_min_f86c9_10 : decode cJ9_min_f86c9 10 = .ok (.lload_n 2, 1) := by decide +kernel
theorem dJ9_min_f86c9_11 : decode cJ9_min_f86c9 11 = .ok (.lreturn, 1) := by decide +kernel
set_option maxRecDepth 20000 in
theorem ggJ0_length_8abf5_J0_coder_7d493 : GoodIn wsJ0_length_8abf5 wsJ0_coder_7d493 := goodIn_r _ [6, 7, 8] (by decide +kernel) (by decide +kernel)
set_option maxRecDepth 20000 in
theorem gJ0_length_8abf5_J0_coder_7d493 : GoodIn wsJ0_length_8abf5 (wsV RJ0 335 RJ0 yJ0_coder_7d493 wsJ0_coder_7d493) := goodIn_app (goodIn_of _ (by decide +kernel)) ggJ0_length_8abf5_J0_coder_7d493
theorem dJ0_length_8abf5_0 : decode cJ0_length_8abf5 0 = .ok (.aload_n 0, 1) := by decide +kernel
theorem dJ0_length_8abf5_1 : decode cJ0_length_8abf5 1 = .ok (.getfield 9, 3) := by decide +kernel
theorem dJ0_length_8abf5_4 : decode cJ0_length_8abf5 4 = .ok (.arraylength, 1) := by decide +kernel
theorem dJ0_length_8abf5_5 : decode cJ0_length_8abf5 5 = .ok (.aload_n 0, 1) := by decide +kernel
theorem dJ0_length_8abf5_6 : decode cJ0_length_8abf5 6 = .ok (.invokevirtual 335, 3) := by decide +kernel
theorem dJ0_length_8abf5_9 : decode cJ0_length_8abf5 9 = .ok (.ishr, 1) := by decide +kernel
theorem dJ0_length_8abf5_10 : decode cJ0_length_8abf5 10 = .ok (.ireturn, 1) := by decide +kernel
set_option maxRecDepth 20000 in
theorem ggJ0_charAt_5068e_J0_isLatin1_aae02 : GoodIn wsJ0_charAt_5068e wsJ0_isLatin1_aae02 := goodIn_r _ [6, 7, 8] (by decide +kernel) (by decide +kernel)
set_option maxRecDepth 20000 in
theorem gJ0_charAt_5068e_J0_isLatin1_aae02 : GoodIn wsJ0_charAt_5068e (wsV RJ0 492 RJ0 yJ0_isLatin1_aae02 wsJ0_isLatin1_aae02) := goodIn_app (goodIn_of _ (by decide +kernel)) ggJ0_charAt_5068e_J0_isLatin1_aae02
set_option maxRecDepth 20000 in
theorem ggJ0_charAt_5068e_J1_charAt_3b067 : GoodIn wsJ0_charAt_5068e wsJ1_charAt_3b067 := goodIn_r _ [12, 13, 14, 5, 15, 16, 17, 18, 19, 20] (by decide +kernel) (by decide +kernel)
set_option maxRecDepth 20000 in
theorem gJ0_charAt_5068e_J1_charAt_3b067 : GoodIn wsJ0_charAt_5068e (va_wsS RJ0 495 yJ1_charAt_3b067 wsJ1_charAt_3b067) := goodIn_app (goodIn_of _ (by decide +kernel)) ggJ0_charAt_5068e_J1_charAt_3b067
set_option maxRecDepth 20000 in
theorem ggJ0_charAt_5068e_J2_charAt_3b067 : GoodIn wsJ0_charAt_5068e wsJ2_charAt_3b067 := goodIn_r _ [24, 25, 26, 23, 27, 28, 29, 30, 31, 14, 5, 15, 16, 17, 18, 19, 20, 32, 33, 34, 35, 36, 37] (by decide +kernel) (by decide +kernel)
set_option maxRecDepth 20000 in
theorem gJ0_charAt_5068e_J2_charAt_3b067 : GoodIn wsJ0_charAt_5068e (va_wsS RJ0 498 yJ2_charAt_3b067 wsJ2_charAt_3b067) := goodIn_app (goodIn_of _ (by decide +kernel)) ggJ0_charAt_5068e_J2_charAt_3b067
theorem dJ0_charAt_5068e_0 : decode cJ0_charAt_5068e 0 = .ok (.aload_n 0, 1) := by decide +kernel
theorem dJ0_charAt_5068e_1 : decode cJ0_charAt_5068e 1 = .ok (.invokevirtual 492, 3) := by decide +kernel
theorem dJ0_charAt_5068e_4 : decode cJ0_charAt_5068e 4 = .ok (.ifCond .eq 12, 3) := by decide +kernel
theorem dJ0_charAt_5068e_7 : decode cJ0_charAt_5068e 7 = .ok (.aload_n 0, 1) := by decide +kernel
theorem dJ0_charAt_5068e_8 : decode cJ0_charAt_5068e 8 = .ok (.getfield 9, 3) := by decide +kernel
theorem dJ0_charAt_5068e_11 : decode cJ0_charAt_5068e 11 = .ok (.iload_n 1, 1) := by decide +kernel
theorem dJ0_charAt_5068e_12 : decode cJ0_charAt_5068e 12 = .ok (.invokestatic 495, 3) := by decide +kernel
theorem dJ0_charAt_5068e_15 : decode cJ0_charAt_5068e 15 = .ok (.ireturn, 1) := by decide +kernel
theorem dJ0_charAt_5068e_16 : decode cJ0_charAt_5068e 16 = .ok (.aload_n 0, 1) := by decide +kernel
theorem dJ0_charAt_5068e_17 : decode cJ0_charAt_5068e 17 = .ok (.getfield 9, 3) := by decide +kernel
theorem dJ0_charAt_5068e_20 : decode cJ0_charAt_5068e 20 = .ok (.iload_n 1, 1) := by decide +kernel
theorem dJ0_charAt_5068e_21 : decode cJ0_charAt_5068e 21 = .ok (.invokestatic 498, 3) := by decide +kernel
theorem dJ0_charAt_5068e_24 : decode cJ0_charAt_5068e 24 = .ok (.ireturn, 1) := by decide +kernel
theorem dJ0_coder_7d493_0 : decode cJ0_coder_7d493 0 = .ok (.getstatic 38, 3) := by decide +kernel
theorem dJ0_coder_7d493_3 : decode cJ0_coder_7d493 3 = .ok (.ifCond .eq 10, 3) := by decide +kernel
theorem dJ0_coder_7d493_6 : decode cJ0_coder_7d493 6 = .ok (.aload_n 0, 1) := by decide +kernel
theorem dJ0_coder_7d493_7 : decode cJ0_coder_7d493 7 = .ok (.getfield 15, 3) := by decide +kernel
theorem dJ0_coder_7d493_10 : decode cJ0_coder_7d493 10 = .ok (.goto 4, 3) := by decide +kernel
theorem dJ0_coder_7d493_13 : decode cJ0_coder_7d493 13 = .ok (.iconst 1, 1) := by decide +kernel
theorem dJ0_coder_7d493_14 : decode cJ0_coder_7d493 14 = .ok (.ireturn, 1) := by decide +kernel
theorem dJ0_isLatin1_aae02_0 : decode cJ0_isLatin1_aae02 0 = .ok (.getstatic 38, 3) := by decide +kernel
theorem dJ0_isLatin1_aae02_3 : decode cJ0_isLatin1_aae02 3 = .ok (.ifCond .eq 14, 3) := by decide +kernel
theorem dJ0_isLatin1_aae02_6 : decode cJ0_isLatin1_aae02 6 = .ok (.aload_n 0, 1) := by decide +kernel
theorem dJ0_isLatin1_aae02_7 : decode cJ0_isLatin1_aae02 7 = .ok (.getfield 15, 3) := by decide +kernel
theorem dJ0_isLatin1_aae02_10 : decode cJ0_isLatin1_aae02 10 = .ok (.ifCond .ne 7, 3) := by decide +kernel
theorem dJ0_isLatin1_aae02_13 : decode cJ0_isLatin1_aae02 13 = .ok (.iconst 1, 1) := by decide +kernel
theorem dJ0_isLatin1_aae02_14 : decode cJ0_isLatin1_aae02 14 = .ok (.goto 4, 3) := by decide +kernel
theorem dJ0_isLatin1_aae02_17 : decode cJ0_isLatin1_aae02 17 = .ok (.iconst 0, 1) := by decide +kernel
theorem dJ0_isLatin1_aae02_18 : decode cJ0_isLatin1_aae02 18 = .ok (.ireturn, 1) := by decide +kernel
set_option maxRecDepth 20000 in
theorem ggJ0_checkIndex_df160_J3_checkIndex_8e157 : GoodIn wsJ0_checkIndex_df160 wsJ3_checkIndex_8e157 := goodIn_r _ [5] (by decide +kernel) (by decide +kernel)
set_option maxRecDepth 20000 in
theorem gJ0_checkIndex_df160_J3_checkIndex_8e157 : GoodIn wsJ0_checkIndex_df160 (va_wsS RJ0 1059 yJ3_checkIndex_8e157 wsJ3_checkIndex_8e157) := goodIn_app (goodIn_of _ (by decide +kernel)) ggJ0_checkIndex_df160_J3_checkIndex_8e157
theorem dJ0_checkIndex_df160_0 : decode cJ0_checkIndex_df160 0 = .ok (.iload_n 0, 1) := by decide +kernel
theorem dJ0_checkIndex_df160_1 : decode cJ0_checkIndex_df160 1 = .ok (.iload_n 1, 1) := by decide +kernel
theorem dJ0_checkIndex_df160_2 : decode cJ0_checkIndex_df160 2 = .ok (.getstatic 1053, 3) := by decide +kernel
theorem dJ0_checkIndex_df160_5 : decode cJ0_checkIndex_df160 5 = .ok (.invokestatic 1059, 3) := by decide +kernel
theorem dJ0_checkIndex_df160_8 : decode cJ0_checkIndex_df160 8 = .ok (.pop, 1) := by decide +kernel
theorem dJ0_checkIndex_df160_9 : decode cJ0_checkIndex_df160 9 = .ok (.return_, 1) := by decide +kernel
set_option maxRecDepth 20000 in
theorem ggJ1_charAt_3b067_J0_checkIndex_df160 : GoodIn wsJ1_charAt_3b067 wsJ0_checkIndex_df160 := goodIn_r _ [4, 5, 6, 7, 8, 9] (by decide +kernel) (by decide +kernel)
set_option maxRecDepth 20000 in
theorem gJ1_charAt_3b067_J0_checkIndex_df160 : GoodIn wsJ1_charAt_3b067 (va_wsS RJ1 9 yJ0_checkIndex_df160 wsJ0_checkIndex_df160) := goodIn_app (goodIn_of _ (by decide +kernel)) ggJ1_charAt_3b067_J0_checkIndex_df160
theorem dJ1_charAt_3b067_0 : decode cJ1_charAt_3b067 0 = .ok (.iload_n 1, 1) := by decide +kernel
theorem dJ1_charAt_3b067_1 : decode cJ1_charAt_3b067 1 = .ok (.aload_n 0, 1) := by decide +kernel
theorem dJ1_charAt_3b067_2 : decode cJ1_charAt_3b067 2 = .ok (.arraylength, 1) := by decide +kernel
theorem dJ1_charAt_3b067_3 : decode cJ1_charAt_3b067 3 = .ok (.invokestatic 9, 3) := by decide +kernel
theorem dJ1_charAt_3b067_6 : decode cJ1_charAt_3b067 6 = .ok (.aload_n 0, 1) := by decide +kernel
theorem dJ1_charAt_3b067_7 : decode cJ1_charAt_3b067 7 = .ok (.iload_n 1, 1) := by decide +kernel
theorem dJ1_charAt_3b067_8 : decode cJ1_charAt_3b067 8 = .ok (.baload, 1) := by decide +kernel
theorem dJ1_charAt_3b067_9 : decode cJ1_charAt_3b067 9 = .ok (.sipush 255, 3) := by decide +kernel
theorem dJ1_charAt_3b067_12 : decode cJ1_charAt_3b067 12 = .ok (.iand, 1) := by decide +kernel
theorem dJ1_charAt_3b067_13 : decode cJ1_charAt_3b067 13 = .ok (.i2c, 1) := by decide +kernel
theorem dJ1_charAt_3b067_14 : decode cJ1_charAt_3b067 14 = .ok (.ireturn, 1) := by decide +kernel
set_option maxRecDepth 20000 in
theorem ggJ2_getChar_3b067_J2_length_9d52b : GoodIn wsJ2_getChar_3b067 wsJ2_length_9d52b := goodIn_r _ [7] (by decide +kernel) (by decide +kernel)
set_option maxRecDepth 20000 in
theorem gJ2_getChar_3b067_J2_length_9d52b : GoodIn wsJ2_getChar_3b067 (va_wsS RJ2 48 yJ2_length_9d52b wsJ2_length_9d52b) := goodIn_app (goodIn_of _ (by decide +kernel)) ggJ2_getChar_3b067_J2_length_9d52b
theorem dJ2_getChar_3b067_0 : decode cJ2_getChar_3b067 0 = .ok (.getstatic 44, 3) := by decide +kernel
theorem dJ2_getChar_3b067_3 : decode cJ2_getChar_3b067 3 = .ok (.ifCond .ne 25, 3) := by decide +kernel
theorem dJ2_getChar_3b067_6 : decode cJ2_getChar_3b067 6 = .ok (.iload_n 1, 1) := by decide +kernel
theorem dJ2_getChar_3b067_7 : decode cJ2_getChar_3b067 7 = .ok (.ifCond .lt 11, 3) := by decide +kernel
theorem dJ2_getChar_3b067_10 : decode cJ2_getChar_3b067 10 = .ok (.iload_n 1, 1) := by decide +kernel
theorem dJ2_getChar_3b067_11 : decode cJ2_getChar_3b067 11 = .ok (.aload_n 0, 1) := by decide +kernel
theorem dJ2_getChar_3b067_12 : decode cJ2_getChar_3b067 12 = .ok (.invokestatic 48, 3) := by decide +kernel
theorem dJ2_getChar_3b067_15 : decode cJ2_getChar_3b067 15 = .ok (.if_icmp .lt 13, 3) := by decide +kernel
theorem dJ2_getChar_3b067_18 : decode cJ2_getChar_3b067 18 = .ok (.new 52, 3) := by decide +kernel
theorem dJ2_getChar_3b067_21 : decode cJ2_getChar_3b067 21 = .ok (.dup, 1) := by decide +kernel
theorem dJ2_getChar_3b067_22 : decode cJ2_getChar_3b067 22 = .ok (.ldc 54, 2) := by decide +kernel
theorem dJ2_getChar_3b067_24 : decode cJ2_getChar_3b067 24 = .ok (.invokespecial 56, 3) := by decide +kernel
theorem dJ2_getChar_3b067_27 : decode cJ2_getChar_3b067 27 = .ok (.athrow, 1) := by decide +kernel
theorem dJ2_getChar_3b067_28 : decode cJ2_getChar_3b067 28 = .ok (.iload_n 1, 1) := by decide +kernel
theorem dJ2_getChar_3b067_29 : decode cJ2_getChar_3b067 29 = .ok (.iconst 1, 1) := by decide +kernel
theorem dJ2_getChar_3b067_30 : decode cJ2_getChar_3b067 30 = .ok (.ishl, 1) := by decide +kernel
theorem dJ2_getChar_3b067_31 : decode cJ2_getChar_3b067 31 = .ok (.istore_n 1, 1) := by decide +kernel
theorem dJ2_getChar_3b067_32 : decode cJ2_getChar_3b067 32 = .ok (.aload_n 0, 1) := by decide +kernel
theorem dJ2_getChar_3b067_33 : decode cJ2_getChar_3b067 33 = .ok (.iload_n 1, 1) := by decide +kernel
theorem dJ2_getChar_3b067_34 : decode cJ2_getChar_3b067 34 = .ok (.iinc 1 1, 3) := by decide +kernel
theorem dJ2_getChar_3b067_37 : decode cJ2_getChar_3b067 37 = .ok (.baload, 1) := by decide +kernel
theorem dJ2_getChar_3b067_38 : decode cJ2_getChar_3b067 38 = .ok (.sipush 255, 3) := by decide +kernel
theorem dJ2_getChar_3b067_41 : decode cJ2_getChar_3b067 41 = .ok (.iand, 1) := by decide +kernel
theorem dJ2_getChar_3b067_42 : decode cJ2_getChar_3b067 42 = .ok (.getstatic 59, 3) := by decide +kernel
theorem dJ2_getChar_3b067_45 : decode cJ2_getChar_3b067 45 = .ok (.ishl, 1) := by decide +kernel
theorem dJ2_getChar_3b067_46 : decode cJ2_getChar_3b067 46 = .ok (.aload_n 0, 1) := by decide +kernel
theorem dJ2_getChar_3b067_47 : decode cJ2_getChar_3b067 47 = .ok (.iload_n 1, 1) := by decide +kernel
theorem dJ2_getChar_3b067_48 : decode cJ2_getChar_3b067 48 = .ok (.baload, 1) := by decide +kernel
theorem dJ2_getChar_3b067_49 : decode cJ2_getChar_3b067 49 = .ok (.sipush 255, 3) := by decide +kernel
theorem dJ2_getChar_3b067_52 : decode cJ2_getChar_3b067 52 = .ok (.iand, 1) := by decide +kernel
theorem dJ2_getChar_3b067_53 : decode cJ2_getChar_3b067 53 = .ok (.getstatic 63, 3) := by decide +kernel
theorem dJ2_getChar_3b067_56 : decode cJ2_getChar_3b067 56 = .ok (.ishl, 1) := by decide +kernel
theorem dJ2_getChar_3b067_57 : decode cJ2_getChar_3b067 57 = .ok (.ior, 1) := by decide +kernel
theorem dJ2_getChar_3b067_58 : decode cJ2_getChar_3b067 58 = .ok (.i2c, 1) := by decide +kernel
theorem dJ2_getChar_3b067_59 : decode cJ2_getChar_3b067 59 = .ok (.ireturn, 1) := by decide +kernel
theorem dJ2_length_9d52b_0 : decode cJ2_length_9d52b 0 = .ok (.aload_n 0, 1) := by decide +kernel
theorem dJ2_length_9d52b_1 : decode cJ2_length_9d52b 1 = .ok (.arraylength, 1) := by decide +kernel
theorem dJ2_length_9d52b_2 : decode cJ2_length_9d52b 2 = .ok (.iconst 1, 1) := by decide +kernel
theorem dJ2_length_9d52b_3 : decode cJ2_length_9d52b 3 = .ok (.ishr, 1) := by decide +kernel
theorem dJ2_length_9d52b_4 : decode cJ2_length_9d52b 4 = .ok (.ireturn, 1) := by decide +kernel
set_option maxRecDepth 20000 in
theorem ggJ2_charAt_3b067_J2_checkIndex_2214a : GoodIn wsJ2_charAt_3b067 wsJ2_checkIndex_2214a := goodIn_r _ [4, 5, 6, 3, 7, 8, 9, 10, 11, 12, 13, 14, 15, 16] (by decide +kernel) (by decide +kernel)
set_option maxRecDepth 20000 in
theorem gJ2_charAt_3b067_J2_checkIndex_2214a : GoodIn wsJ2_charAt_3b067 (va_wsS RJ2 67 yJ2_checkIndex_2214a wsJ2_checkIndex_2214a) := goodIn_app (goodIn_of _ (by decide +kernel)) ggJ2_charAt_3b067_J2_checkIndex_2214a
set_option maxRecDepth 20000 in
theorem ggJ2_charAt_3b067_J2_getChar_3b067 : GoodIn wsJ2_charAt_3b067 wsJ2_getChar_3b067 := goodIn_r _ [19, 20, 21, 22, 5, 6, 3, 7] (by decide +kernel) (by decide +kernel)
set_option maxRecDepth 20000 in
theorem gJ2_charAt_3b067_J2_getChar_3b067 : GoodIn wsJ2_charAt_3b067 (va_wsS RJ2 71 yJ2_getChar_3b067 wsJ2_getChar_3b067) := goodIn_app (goodIn_of _ (by decide +kernel)) ggJ2_charAt_3b067_J2_getChar_3b067
theorem dJ2_charAt_3b067_0 : decode cJ2_charAt_3b067 0 = .ok (.iload_n 1, 1) := by decide +kernel
theorem dJ2_charAt_3b067_1 : decode cJ2_charAt_3b067 1 = .ok (.aload_n 0, 1) := by decide +kernel
theorem dJ2_charAt_3b067_2 : decode cJ2_charAt_3b067 2 = .ok (.invokestatic 67, 3) := by decide +kernel
theorem dJ2_charAt_3b067_5 : decode cJ2_charAt_3b067 5 = .ok (.aload_n 0, 1) := by decide +kernel
theorem dJ2_charAt_3b067_6 : decode cJ2_charAt_3b067 6 = .ok (.iload_n 1, 1) := by decide +kernel
theorem dJ2_charAt_3b067_7 : decode cJ2_charAt_3b067 7 = .ok (.invokestatic 71, 3) := by decide +kernel
theorem dJ2_charAt_3b067_10 : decode cJ2_charAt_3b067 10 = .ok (.ireturn, 1) := by decide +kernel
set_option maxRecDepth 20000 in
theorem ggJ2_checkIndex_2214a_J2_length_9d52b : GoodIn wsJ2_checkIndex_2214a wsJ2_length_9d52b := goodIn_r _ [4] (by decide +kernel) (by decide +kernel)
set_option maxRecDepth 20000 in
theorem gJ2_checkIndex_2214a_J2_length_9d52b : GoodIn wsJ2_checkIndex_2214a (va_wsS RJ2 48 yJ2_length_9d52b wsJ2_length_9d52b) := goodIn_app (goodIn_of _ (by decide +kernel)) ggJ2_checkIndex_2214a_J2_length_9d52b
set_option maxRecDepth 20000 in
theorem ggJ2_checkIndex_2214a_J0_checkIndex_df160 : GoodIn wsJ2_checkIndex_2214a wsJ0_checkIndex_df160 := goodIn_r _ [8, 9, 10, 11, 12, 13] (by decide +kernel) (by decide +kernel)
set_option maxRecDepth 20000 in
theorem gJ2_checkIndex_2214a_J0_checkIndex_df160 : GoodIn wsJ2_checkIndex_2214a (va_wsS RJ2 414 yJ0_checkIndex_df160 wsJ0_checkIndex_df160) := goodIn_app (goodIn_of _ (by decide +kernel)) ggJ2_checkIndex_2214a_J0_checkIndex_df160
theorem dJ2_checkIndex_2214a_0 : decode cJ2_checkIndex_2214a 0 = .ok (.iload_n 0, 1) := by decide +kernel
theorem dJ2_checkIndex_2214a_1 : decode cJ2_checkIndex_2214a 1 = .ok (.aload_n 1, 1) := by decide +kernel
theorem dJ2_checkIndex_2214a_2 : decode cJ2_checkIndex_2214a 2 = .ok (.invokestatic 48, 3) := by decide +kernel
theorem dJ2_checkIndex_2214a_5 : decode cJ2_checkIndex_2214a 5 = .ok (.invokestatic 414, 3) := by decide +kernel
theorem dJ2_checkIndex_2214a_8 : decode cJ2_checkIndex_2214a 8 = .ok (.return_, 1) := by decide +kernel
theorem dJ3_checkIndex_8e157_0 : decode cJ3_checkIndex_8e157 0 = .ok (.iload_n 0, 1) := by decide +kernel
theorem dJ3_checkIndex_8e157_1 : decode cJ3_checkIndex_8e157 1 = .ok (.ifCond .lt 8, 3) := by decide +kernel
theorem dJ3_checkIndex_8e157_4 : decode cJ3_checkIndex_8e157 4 = .ok (.iload_n 0, 1) := by decide +kernel
theorem dJ3_checkIndex_8e157_5 : decode cJ3_checkIndex_8e157 5 = .ok (.iload_n 1, 1) := by decide +kernel
theorem dJ3_checkIndex_8e157_6 : decode cJ3_checkIndex_8e157 6 = .ok (.if_icmp .lt 10, 3) := by decide +kernel
theorem dJ3_checkIndex_8e157_9 : decode cJ3_checkIndex_8e157 9 = .ok (.aload_n 2, 1) := by decide +kernel
theorem dJ3_checkIndex_8e157_10 : decode cJ3_checkIndex_8e157 10 = .ok (.iload_n 0, 1) := by decide +kernel
theorem dJ3_checkIndex_8e157_11 : decode cJ3_checkIndex_8e157 11 = .ok (.iload_n 1, 1) := by decide +kernel
theorem dJ3_checkIndex_8e157_12 : decode cJ3_checkIndex_8e157 12 = .ok (.invokestatic 95, 3) := by decide +kernel
theorem dJ3_checkIndex_8e157_15 : decode cJ3_checkIndex_8e157 15 = .ok (.athrow, 1) := by decide +kernel
theorem dJ3_checkIndex_8e157_16 : decode cJ3_checkIndex_8e157 16 = .ok (.iload_n 0, 1) := by decide +kernel
theorem dJ3_checkIndex_8e157_17 : decode cJ3_checkIndex_8e157 17 = .ok (.ireturn, 1) := by decide +kernel
