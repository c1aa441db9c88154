theorem dX10_plus_8 : decode cX10_plus 8 = .ok (.iload_n 1, 1) := by decide +kernel
theorem dX10_plus_9 : decode cX10_plus 9 = .ok (.aload_n 0, 1) := by decide +kernel
theorem dX10_plus_10 : decode cX10_plus 10 = .ok (.getfield 7, 3) := by decide +kernel
theorem dX10_plus_13 : decode cX10_plus 13 = .ok (.iload_n 2, 1) := by decide +kernel
theorem dX10_plus_14 : decode cX10_plus 14 = .ok (.laload, 1) := by decide +kernel
theorem dX10_plus_15 : decode cX10_plus 15 = .ok (.aload_n 0, 1) := by decide +kernel
theorem dX10_plus_16 : decode cX10_plus 16 = .ok (.getfield 13, 3) := by decide +kernel
theorem dX10_plus_19 : decode cX10_plus 19 = .ok (.iload_n 3, 1) := by decide +kernel
theorem dX10_plus_20 : decode cX10_plus 20 = .ok (.laload, 1) := by decide +kernel
theorem dX10_plus_21 : decode cX10_plus 21 = .ok (.lmul, 1) := by decide +kernel
theorem dX10_plus_22 : decode cX10_plus 22 = .ok (.lload 4, 2) := by decide +kernel
theorem dX10_plus_24 : decode cX10_plus 24 = .ok (.aload_n 0, 1) := by decide +kernel
theorem dX10_plus_25 : decode cX10_plus 25 = .ok (.getfield 7, 3) := by decide +kernel
theorem dX10_plus_28 : decode cX10_plus 28 = .ok (.iload_n 3, 1) := by decide +kernel
theorem dX10_plus_29 : decode cX10_plus 29 = .ok (.laload, 1) := by decide +kernel
theorem dX10_plus_30 : decode cX10_plus 30 = .ok (.lmul, 1) := by decide +kernel
theorem dX10_plus_31 : decode cX10_plus 31 = .ok (.aload_n 0, 1) := by decide +kernel
theorem dX10_plus_32 : decode cX10_plus 32 = .ok (.getfield 13, 3) := by decide +kernel
theorem dX10_plus_35 : decode cX10_plus 35 = .ok (.iload_n 2, 1) := by decide +kernel
theorem dX10_plus_36 : decode cX10_plus 36 = .ok (.laload, 1) := by decide +kernel
theorem dX10_plus_37 : decode cX10_plus 37 = .ok (.lmul, 1) := by decide +kernel
theorem dX10_plus_38 : decode cX10_plus 38 = .ok (.ladd, 1) := by decide +kernel
theorem dX10_plus_39 : decode cX10_plus 39 = .ok (.aload_n 0, 1) := by decide +kernel
theorem dX10_plus_40 : decode cX10_plus 40 = .ok (.getfield 13, 3) := by decide +kernel
theorem dX10_plus_43 : decode cX10_plus 43 = .ok (.iload_n 2, 1) := by decide +kernel
theorem dX10_plus_44 : decode cX10_plus 44 = .ok (.laload, 1) := by decide +kernel
theorem dX10_plus_45 : decode cX10_plus 45 = .ok (.aload_n 0, 1) := by decide +kernel
theorem dX10_plus_46 : decode cX10_plus 46 = .ok (.getfield 13, 3) := by decide +kernel
theorem dX10_plus_49 : decode cX10_plus 49 = .ok (.iload_n 3, 1) := by decide +kernel
theorem dX10_plus_50 : decode cX10_plus 50 = .ok (.laload, 1) := by decide +kernel
theorem dX10_plus_51 : decode cX10_plus 51 = .ok (.lmul, 1) := by decide +kernel
theorem dX10_plus_52 : decode cX10_plus 52 = .ok (.invokevirtual 169, 3) := by decide +kernel
theorem dX10_plus_55 : decode cX10_plus 55 = .ok (.return_, 1) := by decide +kernel
set_option maxRecDepth 20000 in
theorem ggX10_times_X10_made : GoodIn wsX10_times wsX10_made := goodIn_r _ [8, 1, 2, 9, 10, 3, 11, 12, 13, 7, 14, 15, 16, 17, 18, 19, 20, 21, 22, 23, 24, 25, 26, 27, 28, 29, 30, 31, 32, 33, 34, 35, 36, 37, 38, 39, 40, 41, 42, 43, 44, 45, 46] (by decide +kernel) (by decide +kernel)
set_option maxRecDepth 20000 in
theorem gX10_times_X10_made : GoodIn wsX10_times (wsV RX10 169 RX10 yX10_made wsX10_made) := goodIn_app (goodIn_of _ (by decide +kernel)) ggX10_times_X10_made
theorem dX10_times_0 : decode cX10_times 0 = .ok (.aload_n 0, 1) := by decide +kernel
theorem dX10_times_1 : decode cX10_times 1 = .ok (.getfield 162, 3) := by decide +kernel
theorem dX10_times_4 : decode cX10_times 4 = .ok (.ifCond .ne 34, 3) := by decide +kernel
theorem dX10_times_7 : decode cX10_times 7 = .ok (.aload_n 0, 1) := by decide +kernel
theorem dX10_times_8 : decode cX10_times 8 = .ok (.iload_n 1, 1) := by decide +kernel
theorem dX10_times_9 : decode cX10_times 9 = .ok (.aload_n 0, 1) := by decide +kernel
theorem dX10_times_10 : decode cX10_times 10 = .ok (.getfield 7, 3) := by decide +kernel
theorem dX10_times_13 : decode cX10_times 13 = .ok (.iload_n 2, 1) := by decide +kernel
theorem dX10_times_14 : decode cX10_times 14 = .ok (.laload, 1) := by decide +kernel
theorem dX10_times_15 : decode cX10_times 15 = .ok (.aload_n 0, 1) := by decide +kernel
theorem dX10_times_16 : decode cX10_times 16 = .ok (.getfield 7, 3) := by decide +kernel
theorem dX10_times_19 : decode cX10_times 19 = .ok (.iload_n 3, 1) := by decide +kernel
theorem dX10_times_20 : decode cX10_times 20 = .ok (.laload, 1) := by decide +kernel
theorem dX10_times_21 : decode cX10_times 21 = .ok (.lmul, 1) := by decide +kernel
theorem dX10_times_22 : decode cX10_times 22 = .ok (.aload_n 0, 1) := by decide +kernel
theorem dX10_times_23 : decode cX10_times 23 = .ok (.getfield 13, 3) := by decide +kernel
theorem dX10_times_26 : decode cX10_times 26 = .ok (.iload_n 2, 1) := by decide +kernel
theorem dX10_times_27 : decode cX10_times 27 = .ok (.laload, 1) := by decide +kernel
theorem dX10_times_28 : decode cX10_times 28 = .ok (.aload_n 0, 1) := by decide +kernel
theorem dX10_times_29 : decode cX10_times 29 = .ok (.getfield 13, 3) := by decide +kernel
theorem dX10_times_32 : decode cX10_times 32 = .ok (.iload_n 3, 1) := by decide +kernel
theorem dX10_times_33 : decode cX10_times 33 = .ok (.laload, 1) := by decide +kernel
theorem dX10_times_34 : decode cX10_times 34 = .ok (.lmul, 1) := by decide +kernel
theorem dX10_times_35 : decode cX10_times 35 = .ok (.invokevirtual 169, 3) := by decide +kernel
theorem dX10_times_38 : decode cX10_times 38 = .ok (.return_, 1) := by decide +kernel
theorem dX10_copyTo_0 : decode cX10_copyTo 0 = .ok (.iconst 0, 1) := by decide +kernel
theorem dX10_copyTo_1 : decode cX10_copyTo 1 = .ok (.istore_n 3, 1) := by decide +kernel
theorem dX10_copyTo_2 : decode cX10_copyTo 2 = .ok (.iload_n 3, 1) := by decide +kernel
theorem dX10_copyTo_3 : decode cX10_copyTo 3 = .ok (.iconst 2, 1) := by decide +kernel
theorem dX10_copyTo_4 : decode cX10_copyTo 4 = .ok (.if_icmp .ge 41, 3) := by decide +kernel
theorem dX10_copyTo_7 : decode cX10_copyTo 7 = .ok (.aload_n 0, 1) := by decide +kernel
theorem dX10_copyTo_8 : decode cX10_copyTo 8 = .ok (.getfield 7, 3) := by decide +kernel
theorem dX10_copyTo_11 : decode cX10_copyTo 11 = .ok (.iload_n 1, 1) := by decide +kernel
theorem dX10_copyTo_12 : decode cX10_copyTo 12 = .ok (.iload_n 3, 1) := by decide +kernel
theorem dX10_copyTo_13 : decode cX10_copyTo 13 = .ok (.iadd, 1) := by decide +kernel
theorem dX10_copyTo_14 : decode cX10_copyTo 14 = .ok (.aload_n 0, 1) := by decide +kernel
theorem dX10_copyTo_15 : decode cX10_copyTo 15 = .ok (.getfield 7, 3) := by decide +kernel
theorem dX10_copyTo_18 : decode cX10_copyTo 18 = .ok (.iload_n 2, 1) := by decide +kernel
theorem dX10_copyTo_19 : decode cX10_copyTo 19 = .ok (.iload_n 3, 1) := by decide +kernel
theorem dX10_copyTo_20 : decode cX10_copyTo 20 = .ok (.iadd, 1) := by decide +kernel
theorem dX10_copyTo_21 : decode cX10_copyTo 21 = .ok (.laload, 1) := by decide +kernel
theorem dX10_copyTo_22 : decode cX10_copyTo 22 = .ok (.lastore, 1) := by decide +kernel
theorem dX10_copyTo_23 : decode cX10_copyTo 23 = .ok (.aload_n 0, 1) := by decide +kernel
theorem dX10_copyTo_24 : decode cX10_copyTo 24 = .ok (.getfield 13, 3) := by decide +kernel
theorem dX10_copyTo_27 : decode cX10_copyTo 27 = .ok (.iload_n 1, 1) := by decide +kernel
theorem dX10_copyTo_28 : decode cX10_copyTo 28 = .ok (.iload_n 3, 1) := by decide +kernel
theorem dX10_copyTo_29 : decode cX10_copyTo 29 = .ok (.iadd, 1) := by decide +kernel
theorem dX10_copyTo_30 : decode cX10_copyTo 30 = .ok (.aload_n 0, 1) := by decide +kernel
theorem dX10_copyTo_31 : decode cX10_copyTo 31 = .ok (.getfield 13, 3) := by decide +kernel
theorem dX10_copyTo_34 : decode cX10_copyTo 34 = .ok (.iload_n 2, 1) := by decide +kernel
theorem dX10_copyTo_35 : decode cX10_copyTo 35 = .ok (.iload_n 3, 1) := by decide +kernel
theorem dX10_copyTo_36 : decode cX10_copyTo 36 = .ok (.iadd, 1) := by decide +kernel
theorem dX10_copyTo_37 : decode cX10_copyTo 37 = .ok (.laload, 1) := by decide +kernel
theorem dX10_copyTo_38 : decode cX10_copyTo 38 = .ok (.lastore, 1) := by decide +kernel
theorem dX10_copyTo_39 : decode cX10_copyTo 39 = .ok (.iinc 3 1, 3) := by decide +kernel
theorem dX10_copyTo_42 : decode cX10_copyTo 42 = .ok (.goto (-40), 3) := by decide +kernel
theorem dX10_copyTo_45 : decode cX10_copyTo 45 = .ok (.return_, 1) := by decide +kernel
set_option maxRecDepth 20000 in
theorem ggX10_add_X10_plus : GoodIn wsX10_add wsX10_plus := goodIn_r _ [5, 6, 7, 8, 9, 10, 11, 4, 12, 13, 14, 15, 16, 17, 18, 19, 20, 21, 22, 23, 24, 25, 26, 27, 28, 29, 30, 31, 32, 33, 34, 35, 36, 37, 38, 39, 40, 41, 42, 43, 44, 45, 46, 47, 48, 49, 50] (by decide +kernel) (by decide +kernel)
set_option maxRecDepth 20000 in
theorem gX10_add_X10_plus : GoodIn wsX10_add (wsV RX10 172 RX10 yX10_plus wsX10_plus) := goodIn_app (goodIn_of _ (by decide +kernel)) ggX10_add_X10_plus
theorem dX10_add_0 : decode cX10_add 0 = .ok (.aload_n 0, 1) := by decide +kernel
theorem dX10_add_1 : decode cX10_add 1 = .ok (.iload_n 1, 1) := by decide +kernel
theorem dX10_add_2 : decode cX10_add 2 = .ok (.iload_n 1, 1) := by decide +kernel
theorem dX10_add_3 : decode cX10_add 3 = .ok (.iload_n 2, 1) := by decide +kernel
theorem dX10_add_4 : decode cX10_add 4 = .ok (.lload_n 3, 1) := by decide +kernel
theorem dX10_add_5 : decode cX10_add 5 = .ok (.invokevirtual 172, 3) := by decide +kernel
theorem dX10_add_8 : decode cX10_add 8 = .ok (.aload_n 0, 1) := by decide +kernel
theorem dX10_add_9 : decode cX10_add 9 = .ok (.iload_n 1, 1) := by decide +kernel
theorem dX10_add_10 : decode cX10_add 10 = .ok (.iconst 1, 1) := by decide +kernel
theorem dX10_add_11 : decode cX10_add 11 = .ok (.iadd, 1) := by decide +kernel
theorem dX10_add_12 : decode cX10_add 12 = .ok (.iload_n 1, 1) := by decide +kernel
theorem dX10_add_13 : decode cX10_add 13 = .ok (.iconst 1, 1) := by decide +kernel
theorem dX10_add_14 : decode cX10_add 14 = .ok (.iadd, 1) := by decide +kernel
theorem dX10_add_15 : decode cX10_add 15 = .ok (.iload_n 2, 1) := by decide +kernel
theorem dX10_add_16 : decode cX10_add 16 = .ok (.iconst 1, 1) := by decide +kernel
theorem dX10_add_17 : decode cX10_add 17 = .ok (.iadd, 1) := by decide +kernel
theorem dX10_add_18 : decode cX10_add 18 = .ok (.lload_n 3, 1) := by decide +kernel
theorem dX10_add_19 : decode cX10_add 19 = .ok (.invokevirtual 172, 3) := by decide +kernel
theorem dX10_add_22 : decode cX10_add 22 = .ok (.return_, 1) := by decide +kernel
set_option maxRecDepth 20000 in
theorem ggX10_turnW_X10_plus : GoodIn wsX10_turnW wsX10_plus := goodIn_r _ [9, 1, 2, 3, 10, 11, 12, 8, 13, 14, 15, 16, 17, 18, 19, 20, 21, 22, 23, 24, 25, 26, 27, 28, 29, 30, 31, 32, 33, 34, 35, 36, 37, 38, 39, 40, 41, 42, 43, 44, 45, 46, 47, 48, 49, 50, 51] (by decide +kernel) (by decide +kernel)
set_option maxRecDepth 20000 in
theorem gX10_turnW_X10_plus : GoodIn wsX10_turnW (wsV RX10 172 RX10 yX10_plus wsX10_plus) := goodIn_app (goodIn_of _ (by decide +kernel)) ggX10_turnW_X10_plus
theorem dX10_turnW_0 : decode cX10_turnW 0 = .ok (.aload_n 0, 1) := by decide +kernel
theorem dX10_turnW_1 : decode cX10_turnW 1 = .ok (.getfield 162, 3) := by decide +kernel
theorem dX10_turnW_4 : decode cX10_turnW 4 = .ok (.ifCond .ne 52, 3) := by decide +kernel
theorem dX10_turnW_7 : decode cX10_turnW 7 = .ok (.aload_n 0, 1) := by decide +kernel
theorem dX10_turnW_8 : decode cX10_turnW 8 = .ok (.getfield 7, 3) := by decide +kernel
theorem dX10_turnW_11 : decode cX10_turnW 11 = .ok (.iload_n 1, 1) := by decide +kernel
theorem dX10_turnW_12 : decode cX10_turnW 12 = .ok (.iconst 1, 1) := by decide +kernel
theorem dX10_turnW_13 : decode cX10_turnW 13 = .ok (.iadd, 1) := by decide +kernel
theorem dX10_turnW_14 : decode cX10_turnW 14 = .ok (.laload, 1) := by decide +kernel
theorem dX10_turnW_15 : decode cX10_turnW 15 = .ok (.lneg, 1) := by decide +kernel
theorem dX10_turnW_16 : decode cX10_turnW 16 = .ok (.lstore_n 2, 1) := by decide +kernel
theorem dX10_turnW_17 : decode cX10_turnW 17 = .ok (.aload_n 0, 1) := by decide +kernel
theorem dX10_turnW_18 : decode cX10_turnW 18 = .ok (.getfield 13, 3) := by decide +kernel
theorem dX10_turnW_21 : decode cX10_turnW 21 = .ok (.iload_n 1, 1) := by decide +kernel
theorem dX10_turnW_22 : decode cX10_turnW 22 = .ok (.iconst 1, 1) := by decide +kernel
theorem dX10_turnW_23 : decode cX10_turnW 23 = .ok (.iadd, 1) := by decide +kernel
theorem dX10_turnW_24 : decode cX10_turnW 24 = .ok (.laload, 1) := by decide +kernel
theorem dX10_turnW_25 : decode cX10_turnW 25 = .ok (.lstore 4, 2) := by decide +kernel
theorem dX10_turnW_27 : decode cX10_turnW 27 = .ok (.aload_n 0, 1) := by decide +kernel
theorem dX10_turnW_28 : decode cX10_turnW 28 = .ok (.iload_n 1, 1) := by decide +kernel
theorem dX10_turnW_29 : decode cX10_turnW 29 = .ok (.iconst 1, 1) := by decide +kernel
theorem dX10_turnW_30 : decode cX10_turnW 30 = .ok (.iadd, 1) := by decide +kernel
theorem dX10_turnW_31 : decode cX10_turnW 31 = .ok (.iload_n 1, 1) := by decide +kernel
theorem dX10_turnW_32 : decode cX10_turnW 32 = .ok (.iload_n 1, 1) := by decide +kernel
theorem dX10_turnW_33 : decode cX10_turnW 33 = .ok (.iconst 1, 1) := by decide +kernel
theorem dX10_turnW_34 : decode cX10_turnW 34 = .ok (.iadd, 1) := by decide +kernel
theorem dX10_turnW_35 : decode cX10_turnW 35 = .ok (.ldc2_w 176, 3) := by decide +kernel
theorem dX10_turnW_38 : decode cX10_turnW 38 = .ok (.invokevirtual 172, 3) := by decide +kernel
theorem dX10_turnW_41 : decode cX10_turnW 41 = .ok (.aload_n 0, 1) := by decide +kernel
theorem dX10_turnW_42 : decode cX10_turnW 42 = .ok (.getfield 7, 3) := by decide +kernel
theorem dX10_turnW_45 : decode cX10_turnW 45 = .ok (.iload_n 1, 1) := by decide +kernel
theorem dX10_turnW_46 : decode cX10_turnW 46 = .ok (.lload_n 2, 1) := by decide +kernel
theorem dX10_turnW_47 : decode cX10_turnW 47 = .ok (.lastore, 1) := by decide +kernel
theorem dX10_turnW_48 : decode cX10_turnW 48 = .ok (.aload_n 0, 1) := by decide +kernel
theorem dX10_turnW_49 : decode cX10_turnW 49 = .ok (.getfield 13, 3) := by decide +kernel
theorem dX10_turnW_52 : decode cX10_turnW 52 = .ok (.iload_n 1, 1) := by decide +kernel
theorem dX10_turnW_53 : decode cX10_turnW 53 = .ok (.lload 4, 2) := by decide +kernel
theorem dX10_turnW_55 : decode cX10_turnW 55 = .ok (.lastore, 1) := by decide +kernel
theorem dX10_turnW_56 : decode cX10_turnW 56 = .ok (.return_, 1) := by decide +kernel
set_option maxRecDepth 20000 in
theorem ggX10_addTurned_X10_copyTo : GoodIn wsX10_addTurned wsX10_copyTo := goodIn_r _ [5, 6, 7, 38, 39, 40, 41, 42, 43, 44, 45, 46, 47, 48, 49, 50, 51, 52, 53, 54, 55, 56, 57, 58, 59, 60, 61, 62, 63] (by decide +kernel) (by decide +kernel)
set_option maxRecDepth 20000 in
theorem gX10_addTurned_X10_copyTo : GoodIn wsX10_addTurned (wsV RX10 178 RX10 yX10_copyTo wsX10_copyTo) := goodIn_app (goodIn_of _ (by decide +kernel)) ggX10_addTurned_X10_copyTo
set_option maxRecDepth 20000 in
theorem ggX10_addTurned_X10_turnW : GoodIn wsX10_addTurned wsX10_turnW := goodIn_r _ [11, 12, 6, 7, 13, 14, 15, 16, 4, 17, 18, 19, 20, 21, 22, 23, 24, 25, 26, 27, 28, 29, 30, 31, 32, 33, 38, 39, 40, 41, 42, 43, 44, 45, 46, 47, 48, 49, 50, 51, 52, 53, 54, 55, 56, 57, 58, 59, 60, 61, 62, 63] (by decide +kernel) (by decide +kernel)
set_option maxRecDepth 20000 in
theorem gX10_addTurned_X10_turnW : GoodIn wsX10_addTurned (wsV RX10 181 RX10 yX10_turnW wsX10_turnW) := goodIn_app (goodIn_of _ (by decide +kernel)) ggX10_addTurned_X10_turnW
set_option maxRecDepth 20000 in
theorem ggX10_addTurned_X10_add : GoodIn wsX10_addTurned wsX10_add := goodIn_r _ [37, 14, 15, 16, 4, 17, 12, 6, 7, 18, 19, 20, 21, 22, 23, 24, 25, 26, 27, 28, 29, 30, 31, 32, 33, 38, 39, 40, 41, 42, 43, 44, 45, 46, 47, 48, 49, 50, 51, 52, 53, 54, 55, 56, 57, 58, 59, 60, 61, 62, 63] (by decide +kernel) (by decide +kernel)
set_option maxRecDepth 20000 in
theorem gX10_addTurned_X10_add : GoodIn wsX10_addTurned (wsV RX10 184 RX10 yX10_add wsX10_add) := goodIn_app (goodIn_of _ (by decide +kernel)) ggX10_addTurned_X10_add
theorem dX10_addTurned_0 : decode cX10_addTurned 0 = .ok (.aload_n 0, 1) := by decide +kernel
theorem dX10_addTurned_1 : decode cX10_addTurned 1 = .ok (.bipush 74, 2) := by decide +kernel
theorem dX10_addTurned_3 : decode cX10_addTurned 3 = .ok (.iload_n 1, 1) := by decide +kernel
theorem dX10_addTurned_4 : decode cX10_addTurned 4 = .ok (.invokevirtual 178, 3) := by decide +kernel
theorem dX10_addTurned_7 : decode cX10_addTurned 7 = .ok (.iconst 0, 1) := by decide +kernel
theorem dX10_addTurned_8 : decode cX10_addTurned 8 = .ok (.istore_n 3, 1) := by decide +kernel
theorem dX10_addTurned_9 : decode cX10_addTurned 9 = .ok (.iload_n 3, 1) := by decide +kernel
theorem dX10_addTurned_10 : decode cX10_addTurned 10 = .ok (.iload_n 2, 1) := by decide +kernel
theorem dX10_addTurned_11 : decode cX10_addTurned 11 = .ok (.if_icmp .ge 15, 3) := by decide +kernel
theorem dX10_addTurned_14 : decode cX10_addTurned 14 = .ok (.aload_n 0, 1) := by decide +kernel
theorem dX10_addTurned_15 : decode cX10_addTurned 15 = .ok (.bipush 74, 2) := by decide +kernel
theorem dX10_addTurned_17 : decode cX10_addTurned 17 = .ok (.invokevirtual 181, 3) := by decide +kernel
theorem dX10_addTurned_20 : decode cX10_addTurned 20 = .ok (.iinc 3 1, 3) := by decide +kernel
theorem dX10_addTurned_23 : decode cX10_addTurned 23 = .ok (.goto (-14), 3) := by decide +kernel
theorem dX10_addTurned_26 : decode cX10_addTurned 26 = .ok (.aload_n 0, 1) := by decide +kernel
theorem dX10_addTurned_27 : decode cX10_addTurned 27 = .ok (.bipush 72, 2) := by decide +kernel
theorem dX10_addTurned_29 : decode cX10_addTurned 29 = .ok (.bipush 74, 2) := by decide +kernel
theorem dX10_addTurned_31 : decode cX10_addTurned 31 = .ok (.lconst 1, 1) := by decide +kernel
theorem dX10_addTurned_32 : decode cX10_addTurned 32 = .ok (.invokevirtual 184, 3) := by decide +kernel
theorem dX10_addTurned_35 : decode cX10_addTurned 35 = .ok (.return_, 1) := by decide +kernel
set_option maxRecDepth 20000 in
theorem ggX10_third_X10_times : GoodIn wsX10_third wsX10_times := goodIn_r _ [8, 9, 1, 2, 10, 11, 12, 7, 13, 14, 15, 16, 17, 18, 19, 20, 21, 22, 23, 24, 25, 26, 27, 28, 29, 30, 31, 32, 33, 34, 35, 36, 37, 38, 39, 40, 41, 42, 43, 44, 45, 46, 47, 48, 49, 50, 51] (by decide +kernel) (by decide +kernel)
set_option maxRecDepth 20000 in
theorem gX10_third_X10_times : GoodIn wsX10_third (wsV RX10 190 RX10 yX10_times wsX10_times) := goodIn_app (goodIn_of _ (by decide +kernel)) ggX10_third_X10_times
theorem dX10_third_0 : decode cX10_third 0 = .ok (.aload_n 0, 1) := by decide +kernel
theorem dX10_third_1 : decode cX10_third 1 = .ok (.getfield 7, 3) := by decide +kernel
theorem dX10_third_4 : decode cX10_third 4 = .ok (.bipush 74, 2) := by decide +kernel
theorem dX10_third_6 : decode cX10_third 6 = .ok (.lconst 1, 1) := by decide +kernel
theorem dX10_third_7 : decode cX10_third 7 = .ok (.lastore, 1) := by decide +kernel
theorem dX10_third_8 : decode cX10_third 8 = .ok (.aload_n 0, 1) := by decide +kernel
theorem dX10_third_9 : decode cX10_third 9 = .ok (.getfield 13, 3) := by decide +kernel
theorem dX10_third_12 : decode cX10_third 12 = .ok (.bipush 74, 2) := by decide +kernel
theorem dX10_third_14 : decode cX10_third 14 = .ok (.ldc2_w 188, 3) := by decide +kernel
theorem dX10_third_17 : decode cX10_third 17 = .ok (.lastore, 1) := by decide +kernel
theorem dX10_third_18 : decode cX10_third 18 = .ok (.aload_n 0, 1) := by decide +kernel
theorem dX10_third_19 : decode cX10_third 19 = .ok (.iload_n 1, 1) := by decide +kernel
theorem dX10_third_20 : decode cX10_third 20 = .ok (.iload_n 1, 1) := by decide +kernel
theorem dX10_third_21 : decode cX10_third 21 = .ok (.bipush 74, 2) := by decide +kernel
theorem dX10_third_23 : decode cX10_third 23 = .ok (.invokevirtual 190, 3) := by decide +kernel
theorem dX10_third_26 : decode cX10_third 26 = .ok (.aload_n 0, 1) := by decide +kernel
theorem dX10_third_27 : decode cX10_third 27 = .ok (.iload_n 1, 1) := by decide +kernel
theorem dX10_third_28 : decode cX10_third 28 = .ok (.iconst 1, 1) := by decide +kernel
theorem dX10_third_29 : decode cX10_third 29 = .ok (.iadd, 1) := by decide +kernel
theorem dX10_third_30 : decode cX10_third 30 = .ok (.iload_n 1, 1) := by decide +kernel
theorem dX10_third_31 : decode cX10_third 31 = .ok (.iconst 1, 1) := by decide +kernel
theorem dX10_third_32 : decode cX10_third 32 = .ok (.iadd, 1) := by decide +kernel
theorem dX10_third_33 : decode cX10_third 33 = .ok (.bipush 74, 2) := by decide +kernel
theorem dX10_third_35 : decode cX10_third 35 = .ok (.invokevirtual 190, 3) := by decide +kernel
theorem dX10_third_38 : decode cX10_third 38 = .ok (.return_, 1) := by decide +kernel
set_option maxRecDepth 20000 in
theorem ggX10_norm_X10_times : GoodIn wsX10_norm wsX10_times := goodIn_r _ [6, 7, 8, 9, 10, 11, 12, 5, 13, 14, 15, 16, 17, 18, 19, 20, 21, 22, 23, 24, 25, 30, 31, 32, 33, 34, 35, 36, 37, 38, 39, 40, 41, 42, 43, 44, 45, 46, 47, 48, 49, 50, 51, 52, 53, 54, 55] (by decide +kernel) (by decide +kernel)
set_option maxRecDepth 20000 in
theorem gX10_norm_X10_times : GoodIn wsX10_norm (wsV RX10 190 RX10 yX10_times wsX10_times) := goodIn_app (goodIn_of _ (by decide +kernel)) ggX10_norm_X10_times
set_option maxRecDepth 20000 in
theorem ggX10_norm_X10_plus : GoodIn wsX10_norm wsX10_plus := goodIn_r _ [29, 7, 8, 9, 10, 11, 12, 5, 13, 14, 15, 16, 17, 18, 19, 20, 21, 22, 23, 24, 25, 30, 31, 32, 33, 34, 35, 36, 37, 38, 39, 40, 41, 42, 43, 44, 45, 46, 47, 48, 49, 50, 51, 52, 53, 54, 55] (by decide +kernel) (by decide +kernel)
set_option maxRecDepth 20000 in
theorem gX10_norm_X10_plus : GoodIn wsX10_norm (wsV RX10 172 RX10 yX10_plus wsX10_plus) := goodIn_app (goodIn_of _ (by decide +kernel)) ggX10_norm_X10_plus
theorem dX10_norm_0 : decode cX10_norm 0 = .ok (.aload_n 0, 1) := by decide +kernel
theorem dX10_norm_1 : decode cX10_norm 1 = .ok (.iload_n 1, 1) := by decide +kernel
theorem dX10_norm_2 : decode cX10_norm 2 = .ok (.iload_n 2, 1) := by decide +kernel
theorem dX10_norm_3 : decode cX10_norm 3 = .ok (.iload_n 2, 1) := by decide +kernel
theorem dX10_norm_4 : decode cX10_norm 4 = .ok (.invokevirtual 190, 3) := by decide +kernel
theorem dX10_norm_7 : decode cX10_norm 7 = .ok (.aload_n 0, 1) := by decide +kernel
theorem dX10_norm_8 : decode cX10_norm 8 = .ok (.bipush 76, 2) := by decide +kernel
theorem dX10_norm_10 : decode cX10_norm 10 = .ok (.iload_n 2, 1) := by decide +kernel
theorem dX10_norm_11 : decode cX10_norm 11 = .ok (.iload_n 2, 1) := by decide +kernel
theorem dX10_norm_12 : decode cX10_norm 12 = .ok (.iconst 1, 1) := by decide +kernel
theorem dX10_norm_13 : decode cX10_norm 13 = .ok (.iadd, 1) := by decide +kernel
theorem dX10_norm_14 : decode cX10_norm 14 = .ok (.invokevirtual 190, 3) := by decide +kernel
theorem dX10_norm_17 : decode cX10_norm 17 = .ok (.aload_n 0, 1) := by decide +kernel
theorem dX10_norm_18 : decode cX10_norm 18 = .ok (.iload_n 1, 1) := by decide +kernel
theorem dX10_norm_19 : decode cX10_norm 19 = .ok (.iload_n 1, 1) := by decide +kernel
theorem dX10_norm_20 : decode cX10_norm 20 = .ok (.bipush 76, 2) := by decide +kernel
theorem dX10_norm_22 : decode cX10_norm 22 = .ok (.ldc2_w 176, 3) := by decide +kernel
theorem dX10_norm_25 : decode cX10_norm 25 = .ok (.invokevirtual 172, 3) := by decide +kernel
theorem dX10_norm_28 : decode cX10_norm 28 = .ok (.aload_n 0, 1) := by decide +kernel
theorem dX10_norm_29 : decode cX10_norm 29 = .ok (.bipush 76, 2) := by decide +kernel
theorem dX10_norm_31 : decode cX10_norm 31 = .ok (.iload_n 2, 1) := by decide +kernel
theorem dX10_norm_32 : decode cX10_norm 32 = .ok (.iconst 1, 1) := by decide +kernel
theorem dX10_norm_33 : decode cX10_norm 33 = .ok (.iadd, 1) := by decide +kernel
theorem dX10_norm_34 : decode cX10_norm 34 = .ok (.iload_n 2, 1) := by decide +kernel
theorem dX10_norm_35 : decode cX10_norm 35 = .ok (.iconst 1, 1) := by decide +kernel
theorem dX10_norm_36 : decode cX10_norm 36 = .ok (.iadd, 1) := by decide +kernel
theorem dX10_norm_37 : decode cX10_norm 37 = .ok (.invokevirtual 190, 3) := by decide +kernel
theorem dX10_norm_40 : decode cX10_norm 40 = .ok (.aload_n 0, 1) := by decide +kernel
theorem dX10_norm_41 : decode cX10_norm 41 = .ok (.iload_n 1, 1) := by decide +kernel
theorem dX10_norm_42 : decode cX10_norm 42 = .ok (.iload_n 1, 1) := by decide +kernel
theorem dX10_norm_43 : decode cX10_norm 43 = .ok (.bipush 76, 2) := by decide +kernel
theorem dX10_norm_45 : decode cX10_norm 45 = .ok (.lconst 1, 1) := by decide +kernel
theorem dX10_norm_46 : decode cX10_norm 46 = .ok (.invokevirtual 172, 3) := by decide +kernel
theorem dX10_norm_49 : decode cX10_norm 49 = .ok (.return_, 1) := by decide +kernel
set_option maxRecDepth 20000 in
theorem ggX10_keepPast_X10_copyPhases : GoodIn wsX10_keepPast wsX10_copyPhases := goodIn_r _ [8, 2, 3, 9, 10, 11, 12, 13, 14, 15, 16, 17, 18, 19, 20, 21, 22, 23, 24, 25, 26, 27, 28, 29, 30, 31, 32, 33, 34] (by decide +kernel) (by decide +kernel)
set_option maxRecDepth 20000 in
theorem gX10_keepPast_X10_copyPhases : GoodIn wsX10_keepPast (wsV RX10 194 RX10 yX10_copyPhases wsX10_copyPhases) := goodIn_app (goodIn_of _ (by decide +kernel)) ggX10_keepPast_X10_copyPhases
theorem dX10_keepPast_0 : decode cX10_keepPast 0 = .ok (.iconst 0, 1) := by decide +kernel
theorem dX10_keepPast_1 : decode cX10_keepPast 1 = .ok (.istore_n 1, 1) := by decide +kernel
theorem dX10_keepPast_2 : decode cX10_keepPast 2 = .ok (.iload_n 1, 1) := by decide +kernel
theorem dX10_keepPast_3 : decode cX10_keepPast 3 = .ok (.bipush 42, 2) := by decide +kernel
theorem dX10_keepPast_5 : decode cX10_keepPast 5 = .ok (.if_icmp .ge 54, 3) := by decide +kernel
theorem dX10_keepPast_8 : decode cX10_keepPast 8 = .ok (.aload_n 0, 1) := by decide +kernel
theorem dX10_keepPast_9 : decode cX10_keepPast 9 = .ok (.getfield 139, 3) := by decide +kernel
theorem dX10_keepPast_12 : decode cX10_keepPast 12 = .ok (.bipush 8, 2) := by decide +kernel
theorem dX10_keepPast_14 : decode cX10_keepPast 14 = .ok (.if_icmp .ne 45, 3) := by decide +kernel
theorem dX10_keepPast_17 : decode cX10_keepPast 17 = .ok (.aload_n 0, 1) := by decide +kernel
theorem dX10_keepPast_18 : decode cX10_keepPast 18 = .ok (.getfield 7, 3) := by decide +kernel
theorem dX10_keepPast_21 : decode cX10_keepPast 21 = .ok (.bipush 6, 2) := by decide +kernel
theorem dX10_keepPast_23 : decode cX10_keepPast 23 = .ok (.iload_n 1, 1) := by decide +kernel
theorem dX10_keepPast_24 : decode cX10_keepPast 24 = .ok (.iadd, 1) := by decide +kernel
theorem dX10_keepPast_25 : decode cX10_keepPast 25 = .ok (.aload_n 0, 1) := by decide +kernel
theorem dX10_keepPast_26 : decode cX10_keepPast 26 = .ok (.getfield 7, 3) := by decide +kernel
theorem dX10_keepPast_29 : decode cX10_keepPast 29 = .ok (.bipush 12, 2) := by decide +kernel
theorem dX10_keepPast_31 : decode cX10_keepPast 31 = .ok (.iload_n 1, 1) := by decide +kernel
theorem dX10_keepPast_32 : decode cX10_keepPast 32 = .ok (.iadd, 1) := by decide +kernel
theorem dX10_keepPast_33 : decode cX10_keepPast 33 = .ok (.laload, 1) := by decide +kernel
theorem dX10_keepPast_34 : decode cX10_keepPast 34 = .ok (.lastore, 1) := by decide +kernel
theorem dX10_keepPast_35 : decode cX10_keepPast 35 = .ok (.aload_n 0, 1) := by decide +kernel
theorem dX10_keepPast_36 : decode cX10_keepPast 36 = .ok (.getfield 13, 3) := by decide +kernel
theorem dX10_keepPast_39 : decode cX10_keepPast 39 = .ok (.bipush 6, 2) := by decide +kernel
theorem dX10_keepPast_41 : decode cX10_keepPast 41 = .ok (.iload_n 1, 1) := by decide +kernel
theorem dX10_keepPast_42 : decode cX10_keepPast 42 = .ok (.iadd, 1) := by decide +kernel
theorem dX10_keepPast_43 : decode cX10_keepPast 43 = .ok (.aload_n 0, 1) := by decide +kernel
theorem dX10_keepPast_44 : decode cX10_keepPast 44 = .ok (.getfield 13, 3) := by decide +kernel
theorem dX10_keepPast_47 : decode cX10_keepPast 47 = .ok (.bipush 12, 2) := by decide +kernel
theorem dX10_keepPast_49 : decode cX10_keepPast 49 = .ok (.iload_n 1, 1) := by decide +kernel
theorem dX10_keepPast_50 : decode cX10_keepPast 50 = .ok (.iadd, 1) := by decide +kernel
theorem dX10_keepPast_51 : decode cX10_keepPast 51 = .ok (.laload, 1) := by decide +kernel
theorem dX10_keepPast_52 : decode cX10_keepPast 52 = .ok (.lastore, 1) := by decide +kernel
theorem dX10_keepPast_53 : decode cX10_keepPast 53 = .ok (.iinc 1 1, 3) := by decide +kernel
theorem dX10_keepPast_56 : decode cX10_keepPast 56 = .ok (.goto (-54), 3) := by decide +kernel
theorem dX10_keepPast_59 : decode cX10_keepPast 59 = .ok (.aload_n 0, 1) := by decide +kernel
theorem dX10_keepPast_60 : decode cX10_keepPast 60 = .ok (.dup, 1) := by decide +kernel
theorem dX10_keepPast_61 : decode cX10_keepPast 61 = .ok (.getfield 139, 3) := by decide +kernel
theorem dX10_keepPast_64 : decode cX10_keepPast 64 = .ok (.aload_n 0, 1) := by decide +kernel
theorem dX10_keepPast_65 : decode cX10_keepPast 65 = .ok (.getfield 139, 3) := by decide +kernel
theorem dX10_keepPast_68 : decode cX10_keepPast 68 = .ok (.bipush 8, 2) := by decide +kernel
theorem dX10_keepPast_70 : decode cX10_keepPast 70 = .ok (.if_icmp .ne 7, 3) := by decide +kernel
theorem dX10_keepPast_73 : decode cX10_keepPast 73 = .ok (.iconst 1, 1) := by decide +kernel
theorem dX10_keepPast_74 : decode cX10_keepPast 74 = .ok (.goto 4, 3) := by decide +kernel
theorem dX10_keepPast_77 : decode cX10_keepPast 77 = .ok (.iconst 0, 1) := by decide +kernel
theorem dX10_keepPast_78 : decode cX10_keepPast 78 = .ok (.isub, 1) := by decide +kernel
theorem dX10_keepPast_79 : decode cX10_keepPast 79 = .ok (.putfield 139, 3) := by decide +kernel
theorem dX10_keepPast_82 : decode cX10_keepPast 82 = .ok (.aload_n 0, 1) := by decide +kernel
theorem dX10_keepPast_83 : decode cX10_keepPast 83 = .ok (.iconst 0, 1) := by decide +kernel
theorem dX10_keepPast_84 : decode cX10_keepPast 84 = .ok (.bipush 6, 2) := by decide +kernel
theorem dX10_keepPast_86 : decode cX10_keepPast 86 = .ok (.bipush 6, 2) := by decide +kernel
theorem dX10_keepPast_88 : decode cX10_keepPast 88 = .ok (.aload_n 0, 1) := by decide +kernel
theorem dX10_keepPast_89 : decode cX10_keepPast 89 = .ok (.getfield 139, 3) := by decide +kernel
theorem dX10_keepPast_92 : decode cX10_keepPast 92 = .ok (.imul, 1) := by decide +kernel
theorem dX10_keepPast_93 : decode cX10_keepPast 93 = .ok (.iadd, 1) := by decide +kernel
theorem dX10_keepPast_94 : decode cX10_keepPast 94 = .ok (.invokevirtual 194, 3) := by decide +kernel
theorem dX10_keepPast_97 : decode cX10_keepPast 97 = .ok (.aload_n 0, 1) := by decide +kernel
theorem dX10_keepPast_98 : decode cX10_keepPast 98 = .ok (.dup, 1) := by decide +kernel
theorem dX10_keepPast_99 : decode cX10_keepPast 99 = .ok (.getfield 139, 3) := by decide +kernel
theorem dX10_keepPast_102 : decode cX10_keepPast 102 = .ok (.iconst 1, 1) := by decide +kernel
theorem dX10_keepPast_103 : decode cX10_keepPast 103 = .ok (.iadd, 1) := by decide +kernel
theorem dX10_keepPast_104 : decode cX10_keepPast 104 = .ok (.putfield 139, 3) := by decide +kernel
theorem dX10_keepPast_107 : decode cX10_keepPast 107 = .ok (.return_, 1) := by decide +kernel
theorem dX10_copyPhases_0 : decode cX10_copyPhases 0 = .ok (.iconst 0, 1) := by decide +kernel
theorem dX10_copyPhases_1 : decode cX10_copyPhases 1 = .ok (.istore_n 3, 1) := by decide +kernel
theorem dX10_copyPhases_2 : decode cX10_copyPhases 2 = .ok (.iload_n 3, 1) := by decide +kernel
theorem dX10_copyPhases_3 : decode cX10_copyPhases 3 = .ok (.bipush 6, 2) := by decide +kernel
theorem dX10_copyPhases_5 : decode cX10_copyPhases 5 = .ok (.if_icmp .ge 41, 3) := by decide +kernel
theorem dX10_copyPhases_8 : decode cX10_copyPhases 8 = .ok (.aload_n 0, 1) := by decide +kernel
theorem dX10_copyPhases_9 : decode cX10_copyPhases 9 = .ok (.getfield 7, 3) := by decide +kernel
theorem dX10_copyPhases_12 : decode cX10_copyPhases 12 = .ok (.iload_n 2, 1) := by decide +kernel
theorem dX10_copyPhases_13 : decode cX10_copyPhases 13 = .ok (.iload_n 3, 1) := by decide +kernel
theorem dX10_copyPhases_14 : decode cX10_copyPhases 14 = .ok (.iadd, 1) := by decide +kernel
theorem dX10_copyPhases_15 : decode cX10_copyPhases 15 = .ok (.aload_n 0, 1) := by decide +kernel
theorem dX10_copyPhases_16 : decode cX10_copyPhases 16 = .ok (.getfield 7, 3) := by decide +kernel
theorem dX10_copyPhases_19 : decode cX10_copyPhases 19 = .ok (.iload_n 1, 1) := by decide +kernel
theorem dX10_copyPhases_20 : decode cX10_copyPhases 20 = .ok (.iload_n 3, 1) := by decide +kernel
theorem dX10_copyPhases_21 : decode cX10_copyPhases 21 = .ok (.iadd, 1) := by decide +kernel
theorem dX10_copyPhases_22 : decode cX10_copyPhases 22 = .ok (.laload, 1) := by decide +kernel
theorem dX10_copyPhases_23 : decode cX10_copyPhases 23 = .ok (.lastore, 1) := by decide +kernel
theorem dX10_copyPhases_24 : decode cX10_copyPhases 24 = .ok (.aload_n 0, 1) := by decide +kernel
theorem dX10_copyPhases_25 : decode cX10_copyPhases 25 = .ok (.getfield 13, 3) := by decide +kernel
theorem dX10_copyPhases_28 : decode cX10_copyPhases 28 = .ok (.iload_n 2, 1) := by decide +kernel
theorem dX10_copyPhases_29 : decode cX10_copyPhases 29 = .ok (.iload_n 3, 1) := by decide +kernel
theorem dX10_copyPhases_30 : decode cX10_copyPhases 30 = .ok (.iadd, 1) := by decide +kernel
theorem dX10_copyPhases_31 : decode cX10_copyPhases 31 = .ok (.aload_n 0, 1) := by decide +kernel
theorem dX10_copyPhases_32 : decode cX10_copyPhases 32 = .ok (.getfield 13, 3) := by decide +kernel
theorem dX10_copyPhases_35 : decode cX10_copyPhases 35 = .ok (.iload_n 1, 1) := by decide +kernel
theorem dX10_copyPhases_36 : decode cX10_copyPhases 36 = .ok (.iload_n 3, 1) := by decide +kernel
theorem dX10_copyPhases_37 : decode cX10_copyPhases 37 = .ok (.iadd, 1) := by decide +kernel
theorem dX10_copyPhases_38 : decode cX10_copyPhases 38 = .ok (.laload, 1) := by decide +kernel
theorem dX10_copyPhases_39 : decode cX10_copyPhases 39 = .ok (.lastore, 1) := by decide +kernel
theorem dX10_copyPhases_40 : decode cX10_copyPhases 40 = .ok (.iinc 3 1, 3) := by decide +kernel
theorem dX10_copyPhases_43 : decode cX10_copyPhases 43 = .ok (.goto (-41), 3) := by decide +kernel
theorem dX10_copyPhases_46 : decode cX10_copyPhases 46 = .ok (.return_, 1) := by decide +kernel
set_option maxRecDepth 20000 in
theorem ggX10_isPhase_X10_in : GoodIn wsX10_isPhase wsX10_in := goodIn_r _ [5] (by decide +kernel) (by decide +kernel)
set_option maxRecDepth 20000 in
theorem gX10_isPhase_X10_in : GoodIn wsX10_isPhase (va_wsS RX10 66 yX10_in wsX10_in) := goodIn_app (goodIn_of _ (by decide +kernel)) ggX10_isPhase_X10_in
theorem dX10_isPhase_0 : decode cX10_isPhase 0 = .ok (.iload_n 0, 1) := by decide +kernel
theorem dX10_isPhase_1 : decode cX10_isPhase 1 = .ok (.i2l, 1) := by decide +kernel
theorem dX10_isPhase_2 : decode cX10_isPhase 2 = .ok (.lconst 0, 1) := by decide +kernel
theorem dX10_isPhase_3 : decode cX10_isPhase 3 = .ok (.ldc2_w 197, 3) := by decide +kernel
theorem dX10_isPhase_6 : decode cX10_isPhase 6 = .ok (.invokestatic 66, 3) := by decide +kernel
theorem dX10_isPhase_9 : decode cX10_isPhase 9 = .ok (.ireturn, 1) := by decide +kernel
set_option maxRecDepth 20000 in
theorem ggX10_phase_X10_isPhase : GoodIn wsX10_phase wsX10_isPhase := goodIn_r _ [8, 9, 10, 11, 7, 12] (by decide +kernel) (by decide +kernel)
set_option maxRecDepth 20000 in
theorem gX10_phase_X10_isPhase : GoodIn wsX10_phase (va_wsS RX10 199 yX10_isPhase wsX10_isPhase) := goodIn_app (goodIn_of _ (by decide +kernel)) ggX10_phase_X10_isPhase
set_option maxRecDepth 20000 in
theorem ggX10_phase_X10_in : GoodIn wsX10_phase wsX10_in := goodIn_r _ [12] (by decide +kernel) (by decide +kernel)
set_option maxRecDepth 20000 in
theorem gX10_phase_X10_in : GoodIn wsX10_phase (va_wsS RX10 66 yX10_in wsX10_in) := goodIn_app (goodIn_of _ (by decide +kernel)) ggX10_phase_X10_in
set_option maxRecDepth 20000 in
theorem ggX10_phase_X10_keepPast : GoodIn wsX10_phase wsX10_keepPast := goodIn_r _ [16, 17, 18, 19, 20, 21, 22, 7, 23, 31, 32, 33, 34, 35, 36, 37, 38, 39, 40, 41, 42, 43, 44, 45, 46, 47, 48, 49, 50, 51, 52, 53, 54, 55, 56] (by decide +kernel) (by decide +kernel)
set_option maxRecDepth 20000 in
theorem gX10_phase_X10_keepPast : GoodIn wsX10_phase (wsV RX10 206 RX10 yX10_keepPast wsX10_keepPast) := goodIn_app (goodIn_of _ (by decide +kernel)) ggX10_phase_X10_keepPast
set_option maxRecDepth 20000 in
theorem ggX10_phase_X10_lay : GoodIn wsX10_phase wsX10_lay := goodIn_r _ [27, 18, 19, 28, 29, 7, 30, 31, 32, 33, 34, 35, 36, 37, 38, 39, 40, 41, 42, 43, 44, 45, 46, 47, 48, 49, 50, 51, 52, 53, 54, 55, 56] (by decide +kernel) (by decide +kernel)
set_option maxRecDepth 20000 in
theorem gX10_phase_X10_lay : GoodIn wsX10_phase (wsV RX10 158 RX10 yX10_lay wsX10_lay) := goodIn_app (goodIn_of _ (by decide +kernel)) ggX10_phase_X10_lay
theorem dX10_phase_0 : decode cX10_phase 0 = .ok (.iload_n 1, 1) := by decide +kernel
theorem dX10_phase_1 : decode cX10_phase 1 = .ok (.invokestatic 199, 3) := by decide +kernel
theorem dX10_phase_4 : decode cX10_phase 4 = .ok (.ifCond .ne 6, 3) := by decide +kernel
theorem dX10_phase_7 : decode cX10_phase 7 = .ok (.ldc 145, 2) := by decide +kernel
theorem dX10_phase_9 : decode cX10_phase 9 = .ok (.ireturn, 1) := by decide +kernel
theorem dX10_phase_10 : decode cX10_phase 10 = .ok (.iload_n 2, 1) := by decide +kernel
theorem dX10_phase_11 : decode cX10_phase 11 = .ok (.i2l, 1) := by decide +kernel
theorem dX10_phase_12 : decode cX10_phase 12 = .ok (.ldc2_w 202, 3) := by decide +kernel
theorem dX10_phase_15 : decode cX10_phase 15 = .ok (.ldc2_w 204, 3) := by decide +kernel
theorem dX10_phase_18 : decode cX10_phase 18 = .ok (.invokestatic 66, 3) := by decide +kernel
theorem dX10_phase_21 : decode cX10_phase 21 = .ok (.ifCond .eq 43, 3) := by decide +kernel
theorem dX10_phase_24 : decode cX10_phase 24 = .ok (.iload 4, 2) := by decide +kernel
theorem dX10_phase_26 : decode cX10_phase 26 = .ok (.i2l, 1) := by decide +kernel
theorem dX10_phase_27 : decode cX10_phase 27 = .ok (.ldc2_w 202, 3) := by decide +kernel
theorem dX10_phase_30 : decode cX10_phase 30 = .ok (.ldc2_w 204, 3) := by decide +kernel
theorem dX10_phase_33 : decode cX10_phase 33 = .ok (.invokestatic 66, 3) := by decide +kernel
theorem dX10_phase_36 : decode cX10_phase 36 = .ok (.ifCond .eq 28, 3) := by decide +kernel
theorem dX10_phase_39 : decode cX10_phase 39 = .ok (.iload_n 3, 1) := by decide +kernel
theorem dX10_phase_40 : decode cX10_phase 40 = .ok (.i2l, 1) := by decide +kernel
theorem dX10_phase_41 : decode cX10_phase 41 = .ok (.lconst 1, 1) := by decide +kernel
theorem dX10_phase_42 : decode cX10_phase 42 = .ok (.ldc2_w 204, 3) := by decide +kernel
theorem dX10_phase_45 : decode cX10_phase 45 = .ok (.invokestatic 66, 3) := by decide +kernel
theorem dX10_phase_48 : decode cX10_phase 48 = .ok (.ifCond .eq 16, 3) := by decide +kernel
theorem dX10_phase_51 : decode cX10_phase 51 = .ok (.iload 5, 2) := by decide +kernel
theorem dX10_phase_53 : decode cX10_phase 53 = .ok (.i2l, 1) := by decide +kernel
theorem dX10_phase_54 : decode cX10_phase 54 = .ok (.lconst 1, 1) := by decide +kernel
theorem dX10_phase_55 : decode cX10_phase 55 = .ok (.ldc2_w 204, 3) := by decide +kernel
theorem dX10_phase_58 : decode cX10_phase 58 = .ok (.invokestatic 66, 3) := by decide +kernel
theorem dX10_phase_61 : decode cX10_phase 61 = .ok (.ifCond .ne 6, 3) := by decide +kernel
theorem dX10_phase_64 : decode cX10_phase 64 = .ok (.ldc 70, 2) := by decide +kernel
theorem dX10_phase_66 : decode cX10_phase 66 = .ok (.ireturn, 1) := by decide +kernel
theorem dX10_phase_67 : decode cX10_phase 67 = .ok (.aload_n 0, 1) := by decide +kernel
theorem dX10_phase_68 : decode cX10_phase 68 = .ok (.invokevirtual 206, 3) := by decide +kernel
theorem dX10_phase_71 : decode cX10_phase 71 = .ok (.aload_n 0, 1) := by decide +kernel
theorem dX10_phase_72 : decode cX10_phase 72 = .ok (.iconst 2, 1) := by decide +kernel
theorem dX10_phase_73 : decode cX10_phase 73 = .ok (.iload_n 1, 1) := by decide +kernel
theorem dX10_phase_74 : decode cX10_phase 74 = .ok (.imul, 1) := by decide +kernel
theorem dX10_phase_75 : decode cX10_phase 75 = .ok (.iload_n 2, 1) := by decide +kernel
theorem dX10_phase_76 : decode cX10_phase 76 = .ok (.i2l, 1) := by decide +kernel
theorem dX10_phase_77 : decode cX10_phase 77 = .ok (.iload_n 3, 1) := by decide +kernel
theorem dX10_phase_78 : decode cX10_phase 78 = .ok (.i2l, 1) := by decide +kernel
theorem dX10_phase_79 : decode cX10_phase 79 = .ok (.invokevirtual 158, 3) := by decide +kernel
theorem dX10_phase_82 : decode cX10_phase 82 = .ok (.aload_n 0, 1) := by decide +kernel
theorem dX10_phase_83 : decode cX10_phase 83 = .ok (.iconst 2, 1) := by decide +kernel
theorem dX10_phase_84 : decode cX10_phase 84 = .ok (.iload_n 1, 1) := by decide +kernel
theorem dX10_phase_85 : decode cX10_phase 85 = .ok (.imul, 1) := by decide +kernel
theorem dX10_phase_86 : decode cX10_phase 86 = .ok (.iconst 1, 1) := by decide +kernel
theorem dX10_phase_87 : decode cX10_phase 87 = .ok (.iadd, 1) := by decide +kernel
theorem dX10_phase_88 : decode cX10_phase 88 = .ok (.iload 4, 2) := by decide +kernel
theorem dX10_phase_90 : decode cX10_phase 90 = .ok (.i2l, 1) := by decide +kernel
theorem dX10_phase_91 : decode cX10_phase 91 = .ok (.iload 5, 2) := by decide +kernel
theorem dX10_phase_93 : decode cX10_phase 93 = .ok (.i2l, 1) := by decide +kernel
theorem dX10_phase_94 : decode cX10_phase 94 = .ok (.invokevirtual 158, 3) := by decide +kernel
theorem dX10_phase_97 : decode cX10_phase 97 = .ok (.iconst 1, 1) := by decide +kernel
theorem dX10_phase_98 : decode cX10_phase 98 = .ok (.ireturn, 1) := by decide +kernel
set_option maxRecDepth 20000 in
theorem ggX10_mixed_X10_copyTo : GoodIn wsX10_mixed wsX10_copyTo := goodIn_r _ [7, 8, 9, 61, 62, 63, 64, 65, 66, 67, 68, 69, 70, 71, 72, 73, 74, 75, 76, 77, 78, 79, 80, 81, 82, 83, 84, 85, 86] (by decide +kernel) (by decide +kernel)
set_option maxRecDepth 20000 in
theorem gX10_mixed_X10_copyTo : GoodIn wsX10_mixed (wsV RX10 178 RX10 yX10_copyTo wsX10_copyTo) := goodIn_app (goodIn_of _ (by decide +kernel)) ggX10_mixed_X10_copyTo
set_option maxRecDepth 20000 in
theorem ggX10_mixed_X10_addTurned : GoodIn wsX10_mixed wsX10_addTurned := goodIn_r _ [13, 3, 4, 5, 6, 7, 8, 9, 14, 15, 16, 17, 1, 18, 19, 20, 21, 22, 23, 24, 25, 26, 27, 28, 29, 30, 31, 32, 33, 34, 35, 36, 37, 38, 39, 40, 41, 42, 61, 62, 63, 64, 65, 66, 67, 68, 69, 70, 71, 72, 73, 74, 75, 76, 77, 78, 79, 80, 81, 82, 83, 84, 85, 86] (by decide +kernel) (by decide +kernel)
set_option maxRecDepth 20000 in
theorem gX10_mixed_X10_addTurned : GoodIn wsX10_mixed (wsV RX10 209 RX10 yX10_addTurned wsX10_addTurned) := goodIn_app (goodIn_of _ (by decide +kernel)) ggX10_mixed_X10_addTurned
set_option maxRecDepth 20000 in
theorem ggX10_mixed_X10_third : GoodIn wsX10_mixed wsX10_third := goodIn_r _ [46, 8, 9, 47, 48, 49, 50, 6, 51, 1, 23, 24, 25, 26, 27, 28, 29, 30, 31, 32, 33, 34, 35, 36, 37, 38, 61, 62, 63, 64, 65, 66, 67, 68, 69, 70, 71, 72, 73, 74, 75, 76, 77, 78, 79, 80, 81, 82, 83, 84, 85, 86] (by decide +kernel) (by decide +kernel)
set_option maxRecDepth 20000 in
theorem gX10_mixed_X10_third : GoodIn wsX10_mixed (wsV RX10 212 RX10 yX10_third wsX10_third) := goodIn_app (goodIn_of _ (by decide +kernel)) ggX10_mixed_X10_third
set_option maxRecDepth 20000 in
theorem ggX10_mixed_X10_keepPast : GoodIn wsX10_mixed wsX10_keepPast := goodIn_r _ [55, 56, 8, 9, 57, 58, 59, 6, 60, 61, 62, 63, 64, 65, 66, 67, 68, 69, 70, 71, 72, 73, 74, 75, 76, 77, 78, 79, 80, 81, 82, 83, 84, 85, 86] (by decide +kernel) (by decide +kernel)
set_option maxRecDepth 20000 in
theorem gX10_mixed_X10_keepPast : GoodIn wsX10_mixed (wsV RX10 206 RX10 yX10_keepPast wsX10_keepPast) := goodIn_app (goodIn_of _ (by decide +kernel)) ggX10_mixed_X10_keepPast
set_option maxRecDepth 20000 in
theorem ggX10_mixed_X10_copyPhases : GoodIn wsX10_mixed wsX10_copyPhases := goodIn_r _ [60, 8, 9, 61, 62, 63, 64, 65, 66, 67, 68, 69, 70, 71, 72, 73, 74, 75, 76, 77, 78, 79, 80, 81, 82, 83, 84, 85, 86] (by decide +kernel) (by decide +kernel)
set_option maxRecDepth 20000 in
theorem gX10_mixed_X10_copyPhases : GoodIn wsX10_mixed (wsV RX10 194 RX10 yX10_copyPhases wsX10_copyPhases) := goodIn_app (goodIn_of _ (by decide +kernel)) ggX10_mixed_X10_copyPhases
theorem dX10_mixed_0 : decode cX10_mixed 0 = .ok (.aload_n 0, 1) := by decide +kernel
theorem dX10_mixed_1 : decode cX10_mixed 1 = .ok (.iconst 0, 1) := by decide +kernel
theorem dX10_mixed_2 : decode cX10_mixed 2 = .ok (.putfield 162, 3) := by decide +kernel
theorem dX10_mixed_5 : decode cX10_mixed 5 = .ok (.iconst 0, 1) := by decide +kernel
theorem dX10_mixed_6 : decode cX10_mixed 6 = .ok (.istore 4, 2) := by decide +kernel
theorem dX10_mixed_8 : decode cX10_mixed 8 = .ok (.iload 4, 2) := by decide +kernel
theorem dX10_mixed_10 : decode cX10_mixed 10 = .ok (.iconst 3, 1) := by decide +kernel
theorem dX10_mixed_11 : decode cX10_mixed 11 = .ok (.if_icmp .ge 61, 3) := by decide +kernel
theorem dX10_mixed_14 : decode cX10_mixed 14 = .ok (.aload_n 0, 1) := by decide +kernel
theorem dX10_mixed_15 : decode cX10_mixed 15 = .ok (.bipush 72, 2) := by decide +kernel
theorem dX10_mixed_17 : decode cX10_mixed 17 = .ok (.iconst 0, 1) := by decide +kernel
theorem dX10_mixed_18 : decode cX10_mixed 18 = .ok (.invokevirtual 178, 3) := by decide +kernel
theorem dX10_mixed_21 : decode cX10_mixed 21 = .ok (.aload_n 0, 1) := by decide +kernel
theorem dX10_mixed_22 : decode cX10_mixed 22 = .ok (.iconst 2, 1) := by decide +kernel
theorem dX10_mixed_23 : decode cX10_mixed 23 = .ok (.iload 4, 2) := by decide +kernel
theorem dX10_mixed_25 : decode cX10_mixed 25 = .ok (.iload_n 1, 1) := by decide +kernel
theorem dX10_mixed_26 : decode cX10_mixed 26 = .ok (.imul, 1) := by decide +kernel
theorem dX10_mixed_27 : decode cX10_mixed 27 = .ok (.iconst 3, 1) := by decide +kernel
theorem dX10_mixed_28 : decode cX10_mixed 28 = .ok (.irem, 1) := by decide +kernel
theorem dX10_mixed_29 : decode cX10_mixed 29 = .ok (.invokevirtual 209, 3) := by decide +kernel
theorem dX10_mixed_32 : decode cX10_mixed 32 = .ok (.aload_n 0, 1) := by decide +kernel
theorem dX10_mixed_33 : decode cX10_mixed 33 = .ok (.iconst 4, 1) := by decide +kernel
theorem dX10_mixed_34 : decode cX10_mixed 34 = .ok (.iload 4, 2) := by decide +kernel
theorem dX10_mixed_36 : decode cX10_mixed 36 = .ok (.iload_n 2, 1) := by decide +kernel
theorem dX10_mixed_37 : decode cX10_mixed 37 = .ok (.imul, 1) := by decide +kernel
theorem dX10_mixed_38 : decode cX10_mixed 38 = .ok (.iconst 3, 1) := by decide +kernel
theorem dX10_mixed_39 : decode cX10_mixed 39 = .ok (.irem, 1) := by decide +kernel
theorem dX10_mixed_40 : decode cX10_mixed 40 = .ok (.invokevirtual 209, 3) := by decide +kernel
theorem dX10_mixed_43 : decode cX10_mixed 43 = .ok (.iload_n 3, 1) := by decide +kernel
theorem dX10_mixed_44 : decode cX10_mixed 44 = .ok (.ifCond .eq 9, 3) := by decide +kernel
theorem dX10_mixed_47 : decode cX10_mixed 47 = .ok (.aload_n 0, 1) := by decide +kernel
theorem dX10_mixed_48 : decode cX10_mixed 48 = .ok (.bipush 72, 2) := by decide +kernel
theorem dX10_mixed_50 : decode cX10_mixed 50 = .ok (.invokevirtual 212, 3) := by decide +kernel
theorem dX10_mixed_53 : decode cX10_mixed 53 = .ok (.aload_n 0, 1) := by decide +kernel
theorem dX10_mixed_54 : decode cX10_mixed 54 = .ok (.bipush 66, 2) := by decide +kernel
theorem dX10_mixed_56 : decode cX10_mixed 56 = .ok (.iconst 2, 1) := by decide +kernel
theorem dX10_mixed_57 : decode cX10_mixed 57 = .ok (.iload 4, 2) := by decide +kernel
theorem dX10_mixed_59 : decode cX10_mixed 59 = .ok (.imul, 1) := by decide +kernel
theorem dX10_mixed_60 : decode cX10_mixed 60 = .ok (.iadd, 1) := by decide +kernel
theorem dX10_mixed_61 : decode cX10_mixed 61 = .ok (.bipush 72, 2) := by decide +kernel
theorem dX10_mixed_63 : decode cX10_mixed 63 = .ok (.invokevirtual 178, 3) := by decide +kernel
theorem dX10_mixed_66 : decode cX10_mixed 66 = .ok (.iinc 4 1, 3) := by decide +kernel
theorem dX10_mixed_69 : decode cX10_mixed 69 = .ok (.goto (-61), 3) := by decide +kernel
theorem dX10_mixed_72 : decode cX10_mixed 72 = .ok (.aload_n 0, 1) := by decide +kernel
theorem dX10_mixed_73 : decode cX10_mixed 73 = .ok (.getfield 162, 3) := by decide +kernel
theorem dX10_mixed_76 : decode cX10_mixed 76 = .ok (.ifCond .eq 6, 3) := by decide +kernel
theorem dX10_mixed_79 : decode cX10_mixed 79 = .ok (.ldc 215, 2) := by decide +kernel
theorem dX10_mixed_81 : decode cX10_mixed 81 = .ok (.ireturn, 1) := by decide +kernel
theorem dX10_mixed_82 : decode cX10_mixed 82 = .ok (.aload_n 0, 1) := by decide +kernel
theorem dX10_mixed_83 : decode cX10_mixed 83 = .ok (.invokevirtual 206, 3) := by decide +kernel
theorem dX10_mixed_86 : decode cX10_mixed 86 = .ok (.aload_n 0, 1) := by decide +kernel
theorem dX10_mixed_87 : decode cX10_mixed 87 = .ok (.bipush 66, 2) := by decide +kernel
theorem dX10_mixed_89 : decode cX10_mixed 89 = .ok (.iconst 0, 1) := by decide +kernel
theorem dX10_mixed_90 : decode cX10_mixed 90 = .ok (.invokevirtual 194, 3) := by decide +kernel
theorem dX10_mixed_93 : decode cX10_mixed 93 = .ok (.iconst 1, 1) := by decide +kernel
theorem dX10_mixed_94 : decode cX10_mixed 94 = .ok (.ireturn, 1) := by decide +kernel
set_option maxRecDepth 20000 in
theorem ggX10_split_X10_mixed : GoodIn wsX10_split wsX10_mixed := goodIn_r _ [5, 6, 7, 8, 9, 10, 4, 11, 12, 13, 14, 15, 16, 17, 18, 19, 20, 21, 22, 23, 24, 25, 26, 27, 28, 29, 30, 31, 32, 33, 34, 35, 36, 37, 38, 39, 40, 41, 42, 43, 44, 45, 46, 47, 48, 49, 50, 51, 52, 53, 54, 55, 56, 57, 58, 59, 60, 61, 62, 63, 64, 65, 66, 67, 68, 69, 70, 71, 72, 73, 74, 75, 76, 77, 78, 79, 80, 81, 82, 83, 84, 85, 86, 87, 88, 89, 90] (by decide +kernel) (by decide +kernel)
set_option maxRecDepth 20000 in
theorem gX10_split_X10_mixed : GoodIn wsX10_split (wsV RX10 216 RX10 yX10_mixed wsX10_mixed) := goodIn_app (goodIn_of _ (by decide +kernel)) ggX10_split_X10_mixed
theorem dX10_split_0 : decode cX10_split 0 = .ok (.aload_n 0, 1) := by decide +kernel
theorem dX10_split_1 : decode cX10_split 1 = .ok (.iconst 1, 1) := by decide +kernel
theorem dX10_split_2 : decode cX10_split 2 = .ok (.iconst 2, 1) := by decide +kernel
theorem dX10_split_3 : decode cX10_split 3 = .ok (.iconst 1, 1) := by decide +kernel
theorem dX10_split_4 : decode cX10_split 4 = .ok (.invokevirtual 216, 3) := by decide +kernel
theorem dX10_split_7 : decode cX10_split 7 = .ok (.ireturn, 1) := by decide +kernel
set_option maxRecDepth 20000 in
theorem ggX10_join_X10_mixed : GoodIn wsX10_join wsX10_mixed := goodIn_r _ [5, 6, 7, 8, 9, 10, 4, 11, 12, 13, 14, 15, 16, 17, 18, 19, 20, 21, 22, 23, 24, 25, 26, 27, 28, 29, 30, 31, 32, 33, 34, 35, 36, 37, 38, 39, 40, 41, 42, 43, 44, 45, 46, 47, 48, 49, 50, 51, 52, 53, 54, 55, 56, 57, 58, 59, 60, 61, 62, 63, 64, 65, 66, 67, 68, 69, 70, 71, 72, 73, 74, 75, 76, 77, 78, 79, 80, 81, 82, 83, 84, 85, 86, 87, 88, 89, 90] (by decide +kernel) (by decide +kernel)
set_option maxRecDepth 20000 in
theorem gX10_join_X10_mixed : GoodIn wsX10_join (wsV RX10 216 RX10 yX10_mixed wsX10_mixed) := goodIn_app (goodIn_of _ (by decide +kernel)) ggX10_join_X10_mixed
theorem dX10_join_0 : decode cX10_join 0 = .ok (.aload_n 0, 1) := by decide +kernel
theorem dX10_join_1 : decode cX10_join 1 = .ok (.iconst 2, 1) := by decide +kernel
theorem dX10_join_2 : decode cX10_join 2 = .ok (.iconst 1, 1) := by decide +kernel
theorem dX10_join_3 : decode cX10_join 3 = .ok (.iconst 0, 1) := by decide +kernel
theorem dX10_join_4 : decode cX10_join 4 = .ok (.invokevirtual 216, 3) := by decide +kernel
theorem dX10_join_7 : decode cX10_join 7 = .ok (.ireturn, 1) := by decide +kernel
set_option maxRecDepth 20000 in
theorem ggX10_turn_X10_keepPast : GoodIn wsX10_turn wsX10_keepPast := goodIn_r _ [5, 6, 7, 8, 9, 10, 11, 4, 12, 17, 18, 19, 20, 21, 22, 23, 24, 25, 26, 27, 28, 29, 30, 31, 32, 33, 34, 35, 36, 37, 38, 39, 40, 41, 42] (by decide +kernel) (by decide +kernel)
set_option maxRecDepth 20000 in
theorem gX10_turn_X10_keepPast : GoodIn wsX10_turn (wsV RX10 206 RX10 yX10_keepPast wsX10_keepPast) := goodIn_app (goodIn_of _ (by decide +kernel)) ggX10_turn_X10_keepPast
set_option maxRecDepth 20000 in
theorem ggX10_turn_X10_copyPhases : GoodIn wsX10_turn wsX10_copyPhases := goodIn_r _ [12, 7, 8, 17, 18, 19, 20, 21, 22, 23, 24, 25, 26, 27, 28, 29, 30, 31, 32, 33, 34, 35, 36, 37, 38, 39, 40, 41, 42] (by decide +kernel) (by decide +kernel)
set_option maxRecDepth 20000 in
theorem gX10_turn_X10_copyPhases : GoodIn wsX10_turn (wsV RX10 194 RX10 yX10_copyPhases wsX10_copyPhases) := goodIn_app (goodIn_of _ (by decide +kernel)) ggX10_turn_X10_copyPhases
set_option maxRecDepth 20000 in
theorem ggX10_turn_X10_copyTo : GoodIn wsX10_turn wsX10_copyTo := goodIn_r _ [16, 7, 8, 17, 18, 19, 20, 21, 22, 23, 24, 25, 26, 27, 28, 29, 30, 31, 32, 33, 34, 35, 36, 37, 38, 39, 40, 41, 42] (by decide +kernel) (by decide +kernel)
set_option maxRecDepth 20000 in
theorem gX10_turn_X10_copyTo : GoodIn wsX10_turn (wsV RX10 178 RX10 yX10_copyTo wsX10_copyTo) := goodIn_app (goodIn_of _ (by decide +kernel)) ggX10_turn_X10_copyTo
theorem dX10_turn_0 : decode cX10_turn 0 = .ok (.aload_n 0, 1) := by decide +kernel
theorem dX10_turn_1 : decode cX10_turn 1 = .ok (.invokevirtual 206, 3) := by decide +kernel
theorem dX10_turn_4 : decode cX10_turn 4 = .ok (.aload_n 0, 1) := by decide +kernel
theorem dX10_turn_5 : decode cX10_turn 5 = .ok (.iconst 0, 1) := by decide +kernel
theorem dX10_turn_6 : decode cX10_turn 6 = .ok (.bipush 66, 2) := by decide +kernel
theorem dX10_turn_8 : decode cX10_turn 8 = .ok (.invokevirtual 194, 3) := by decide +kernel
theorem dX10_turn_11 : decode cX10_turn 11 = .ok (.aload_n 0, 1) := by decide +kernel
theorem dX10_turn_12 : decode cX10_turn 12 = .ok (.iconst 0, 1) := by decide +kernel
theorem dX10_turn_13 : decode cX10_turn 13 = .ok (.bipush 68, 2) := by decide +kernel
theorem dX10_turn_15 : decode cX10_turn 15 = .ok (.invokevirtual 178, 3) := by decide +kernel
theorem dX10_turn_18 : decode cX10_turn 18 = .ok (.aload_n 0, 1) := by decide +kernel
theorem dX10_turn_19 : decode cX10_turn 19 = .ok (.iconst 2, 1) := by decide +kernel
theorem dX10_turn_20 : decode cX10_turn 20 = .ok (.bipush 70, 2) := by decide +kernel
theorem dX10_turn_22 : decode cX10_turn 22 = .ok (.invokevirtual 178, 3) := by decide +kernel
theorem dX10_turn_25 : decode cX10_turn 25 = .ok (.aload_n 0, 1) := by decide +kernel
theorem dX10_turn_26 : decode cX10_turn 26 = .ok (.iconst 4, 1) := by decide +kernel
theorem dX10_turn_27 : decode cX10_turn 27 = .ok (.bipush 66, 2) := by decide +kernel
theorem dX10_turn_29 : decode cX10_turn 29 = .ok (.invokevirtual 178, 3) := by decide +kernel
theorem dX10_turn_32 : decode cX10_turn 32 = .ok (.iconst 1, 1) := by decide +kernel
theorem dX10_turn_33 : decode cX10_turn 33 = .ok (.ireturn, 1) := by decide +kernel
set_option maxRecDepth 20000 in
theorem ggX10_undo_X10_copyPhases : GoodIn wsX10_undo wsX10_copyPhases := goodIn_r _ [7, 8, 9, 10, 11, 12, 13, 14, 15, 16, 17, 18, 19, 20, 21, 22, 23, 24, 25, 26, 27, 28, 29, 30, 31, 32, 33, 34, 35] (by decide +kernel) (by decide +kernel)
set_option maxRecDepth 20000 in
theorem gX10_undo_X10_copyPhases : GoodIn wsX10_undo (wsV RX10 194 RX10 yX10_copyPhases wsX10_copyPhases) := goodIn_app (goodIn_of _ (by decide +kernel)) ggX10_undo_X10_copyPhases
theorem dX10_undo_0 : decode cX10_undo 0 = .ok (.aload_n 0, 1) := by decide +kernel
theorem dX10_undo_1 : decode cX10_undo 1 = .ok (.getfield 139, 3) := by decide +kernel
theorem dX10_undo_4 : decode cX10_undo 4 = .ok (.ifCond .ne 6, 3) := by decide +kernel
theorem dX10_undo_7 : decode cX10_undo 7 = .ok (.ldc 74, 2) := by decide +kernel
theorem dX10_undo_9 : decode cX10_undo 9 = .ok (.ireturn, 1) := by decide +kernel
theorem dX10_undo_10 : decode cX10_undo 10 = .ok (.aload_n 0, 1) := by decide +kernel
theorem dX10_undo_11 : decode cX10_undo 11 = .ok (.dup, 1) := by decide +kernel
theorem dX10_undo_12 : decode cX10_undo 12 = .ok (.getfield 139, 3) := by decide +kernel
theorem dX10_undo_15 : decode cX10_undo 15 = .ok (.iconst 1, 1) := by decide +kernel
theorem dX10_undo_16 : decode cX10_undo 16 = .ok (.isub, 1) := by decide +kernel
theorem dX10_undo_17 : decode cX10_undo 17 = .ok (.putfield 139, 3) := by decide +kernel
theorem dX10_undo_20 : decode cX10_undo 20 = .ok (.aload_n 0, 1) := by decide +kernel
theorem dX10_undo_21 : decode cX10_undo 21 = .ok (.bipush 6, 2) := by decide +kernel
theorem dX10_undo_23 : decode cX10_undo 23 = .ok (.bipush 6, 2) := by decide +kernel
theorem dX10_undo_25 : decode cX10_undo 25 = .ok (.aload_n 0, 1) := by decide +kernel
theorem dX10_undo_26 : decode cX10_undo 26 = .ok (.getfield 139, 3) := by decide +kernel
theorem dX10_undo_29 : decode cX10_undo 29 = .ok (.imul, 1) := by decide +kernel
theorem dX10_undo_30 : decode cX10_undo 30 = .ok (.iadd, 1) := by decide +kernel
theorem dX10_undo_31 : decode cX10_undo 31 = .ok (.iconst 0, 1) := by decide +kernel
theorem dX10_undo_32 : decode cX10_undo 32 = .ok (.invokevirtual 194, 3) := by decide +kernel
theorem dX10_undo_35 : decode cX10_undo 35 = .ok (.aload_n 0, 1) := by decide +kernel
theorem dX10_undo_36 : decode cX10_undo 36 = .ok (.getfield 139, 3) := by decide +kernel
theorem dX10_undo_39 : decode cX10_undo 39 = .ok (.ireturn, 1) := by decide +kernel
set_option maxRecDepth 20000 in
theorem ggX10_keep_X10_in : GoodIn wsX10_keep wsX10_in := goodIn_r _ [6] (by decide +kernel) (by decide +kernel)
set_option maxRecDepth 20000 in
theorem gX10_keep_X10_in : GoodIn wsX10_keep (va_wsS RX10 66 yX10_in wsX10_in) := goodIn_app (goodIn_of _ (by decide +kernel)) ggX10_keep_X10_in
set_option maxRecDepth 20000 in
theorem ggX10_keep_X10_copyPhases : GoodIn wsX10_keep wsX10_copyPhases := goodIn_r _ [10, 11, 12, 13, 14, 15, 16, 17, 18, 19, 20, 21, 22, 23, 24, 25, 26, 27, 28, 29, 30, 31, 32, 33, 34, 35, 36, 37, 38] (by decide +kernel) (by decide +kernel)
set_option maxRecDepth 20000 in
theorem gX10_keep_X10_copyPhases : GoodIn wsX10_keep (wsV RX10 194 RX10 yX10_copyPhases wsX10_copyPhases) := goodIn_app (goodIn_of _ (by decide +kernel)) ggX10_keep_X10_copyPhases
theorem dX10_keep_0 : decode cX10_keep 0 = .ok (.iload_n 1, 1) := by decide +kernel
theorem dX10_keep_1 : decode cX10_keep 1 = .ok (.i2l, 1) := by decide +kernel
theorem dX10_keep_2 : decode cX10_keep 2 = .ok (.lconst 0, 1) := by decide +kernel
theorem dX10_keep_3 : decode cX10_keep 3 = .ok (.lconst 1, 1) := by decide +kernel
theorem dX10_keep_4 : decode cX10_keep 4 = .ok (.invokestatic 66, 3) := by decide +kernel
theorem dX10_keep_7 : decode cX10_keep 7 = .ok (.ifCond .ne 6, 3) := by decide +kernel
theorem dX10_keep_10 : decode cX10_keep 10 = .ok (.ldc 70, 2) := by decide +kernel
theorem dX10_keep_12 : decode cX10_keep 12 = .ok (.ireturn, 1) := by decide +kernel
theorem dX10_keep_13 : decode cX10_keep 13 = .ok (.aload_n 0, 1) := by decide +kernel
theorem dX10_keep_14 : decode cX10_keep 14 = .ok (.iconst 0, 1) := by decide +kernel
theorem dX10_keep_15 : decode cX10_keep 15 = .ok (.bipush 54, 2) := by decide +kernel
theorem dX10_keep_17 : decode cX10_keep 17 = .ok (.bipush 6, 2) := by decide +kernel
theorem dX10_keep_19 : decode cX10_keep 19 = .ok (.iload_n 1, 1) := by decide +kernel
theorem dX10_keep_20 : decode cX10_keep 20 = .ok (.imul, 1) := by decide +kernel
theorem dX10_keep_21 : decode cX10_keep 21 = .ok (.iadd, 1) := by decide +kernel
theorem dX10_keep_22 : decode cX10_keep 22 = .ok (.invokevirtual 194, 3) := by decide +kernel
theorem dX10_keep_25 : decode cX10_keep 25 = .ok (.aload_n 0, 1) := by decide +kernel
theorem dX10_keep_26 : decode cX10_keep 26 = .ok (.getfield 33, 3) := by decide +kernel
theorem dX10_keep_29 : decode cX10_keep 29 = .ok (.iload_n 1, 1) := by decide +kernel
theorem dX10_keep_30 : decode cX10_keep 30 = .ok (.iconst 1, 1) := by decide +kernel
theorem dX10_keep_31 : decode cX10_keep 31 = .ok (.bastore, 1) := by decide +kernel
theorem dX10_keep_32 : decode cX10_keep 32 = .ok (.iconst 1, 1) := by decide +kernel
theorem dX10_keep_33 : decode cX10_keep 33 = .ok (.ireturn, 1) := by decide +kernel
set_option maxRecDepth 20000 in
theorem ggX10_back_X10_in : GoodIn wsX10_back wsX10_in := goodIn_r _ [8] (by decide +kernel) (by decide +kernel)
set_option maxRecDepth 20000 in
theorem gX10_back_X10_in : GoodIn wsX10_back (va_wsS RX10 66 yX10_in wsX10_in) := goodIn_app (goodIn_of _ (by decide +kernel)) ggX10_back_X10_in
set_option maxRecDepth 20000 in
theorem ggX10_back_X10_copyPhases : GoodIn wsX10_back wsX10_copyPhases := goodIn_r _ [12, 13, 14, 15, 16, 17, 18, 19, 20, 21, 22, 23, 24, 25, 26, 27, 28, 29, 30, 31, 32, 33, 34, 35, 36, 37, 38, 39, 40] (by decide +kernel) (by decide +kernel)
set_option maxRecDepth 20000 in
theorem gX10_back_X10_copyPhases : GoodIn wsX10_back (wsV RX10 194 RX10 yX10_copyPhases wsX10_copyPhases) := goodIn_app (goodIn_of _ (by decide +kernel)) ggX10_back_X10_copyPhases
theorem dX10_back_0 : decode cX10_back 0 = .ok (.iload_n 1, 1) := by decide +kernel
theorem dX10_back_1 : decode cX10_back 1 = .ok (.i2l, 1) := by decide +kernel
theorem dX10_back_2 : decode cX10_back 2 = .ok (.lconst 0, 1) := by decide +kernel
theorem dX10_back_3 : decode cX10_back 3 = .ok (.lconst 1, 1) := by decide +kernel
theorem dX10_back_4 : decode cX10_back 4 = .ok (.invokestatic 66, 3) := by decide +kernel
theorem dX10_back_7 : decode cX10_back 7 = .ok (.ifCond .ne 6, 3) := by decide +kernel
theorem dX10_back_10 : decode cX10_back 10 = .ok (.ldc 70, 2) := by decide +kernel
theorem dX10_back_12 : decode cX10_back 12 = .ok (.ireturn, 1) := by decide +kernel
theorem dX10_back_13 : decode cX10_back 13 = .ok (.aload_n 0, 1) := by decide +kernel
theorem dX10_back_14 : decode cX10_back 14 = .ok (.getfield 33, 3) := by decide +kernel
theorem dX10_back_17 : decode cX10_back 17 = .ok (.iload_n 1, 1) := by decide +kernel
theorem dX10_back_18 : decode cX10_back 18 = .ok (.baload, 1) := by decide +kernel
theorem dX10_back_19 : decode cX10_back 19 = .ok (.ifCond .ne 6, 3) := by decide +kernel
theorem dX10_back_22 : decode cX10_back 22 = .ok (.ldc 74, 2) := by decide +kernel
theorem dX10_back_24 : decode cX10_back 24 = .ok (.ireturn, 1) := by decide +kernel
theorem dX10_back_25 : decode cX10_back 25 = .ok (.aload_n 0, 1) := by decide +kernel
theorem dX10_back_26 : decode cX10_back 26 = .ok (.bipush 54, 2) := by decide +kernel
theorem dX10_back_28 : decode cX10_back 28 = .ok (.bipush 6, 2) := by decide +kernel
theorem dX10_back_30 : decode cX10_back 30 = .ok (.iload_n 1, 1) := by decide +kernel
theorem dX10_back_31 : decode cX10_back 31 = .ok (.imul, 1) := by decide +kernel
theorem dX10_back_32 : decode cX10_back 32 = .ok (.iadd, 1) := by decide +kernel
theorem dX10_back_33 : decode cX10_back 33 = .ok (.iconst 0, 1) := by decide +kernel
theorem dX10_back_34 : decode cX10_back 34 = .ok (.invokevirtual 194, 3) := by decide +kernel
theorem dX10_back_37 : decode cX10_back 37 = .ok (.aload_n 0, 1) := by decide +kernel
theorem dX10_back_38 : decode cX10_back 38 = .ok (.iconst 0, 1) := by decide +kernel
theorem dX10_back_39 : decode cX10_back 39 = .ok (.putfield 139, 3) := by decide +kernel
theorem dX10_back_42 : decode cX10_back 42 = .ok (.iconst 1, 1) := by decide +kernel
theorem dX10_back_43 : decode cX10_back 43 = .ok (.ireturn, 1) := by decide +kernel
theorem dX10_partOf_0 : decode cX10_partOf 0 = .ok (.iload_n 2, 1) := by decide +kernel
theorem dX10_partOf_1 : decode cX10_partOf 1 = .ok (.ifCond .ne 12, 3) := by decide +kernel
theorem dX10_partOf_4 : decode cX10_partOf 4 = .ok (.aload_n 0, 1) := by decide +kernel
theorem dX10_partOf_5 : decode cX10_partOf 5 = .ok (.getfield 7, 3) := by decide +kernel
theorem dX10_partOf_8 : decode cX10_partOf 8 = .ok (.iload_n 1, 1) := by decide +kernel
theorem dX10_partOf_9 : decode cX10_partOf 9 = .ok (.laload, 1) := by decide +kernel
theorem dX10_partOf_10 : decode cX10_partOf 10 = .ok (.goto 9, 3) := by decide +kernel
theorem dX10_partOf_13 : decode cX10_partOf 13 = .ok (.aload_n 0, 1) := by decide +kernel
theorem dX10_partOf_14 : decode cX10_partOf 14 = .ok (.getfield 13, 3) := by decide +kernel
theorem dX10_partOf_17 : decode cX10_partOf 17 = .ok (.iload_n 1, 1) := by decide +kernel
theorem dX10_partOf_18 : decode cX10_partOf 18 = .ok (.laload, 1) := by decide +kernel
theorem dX10_partOf_19 : decode cX10_partOf 19 = .ok (.lreturn, 1) := by decide +kernel
set_option maxRecDepth 20000 in
theorem ggX10_told_X10_isPhase : GoodIn wsX10_told wsX10_isPhase := goodIn_r _ [9, 2, 10, 11, 8, 12] (by decide +kernel) (by decide +kernel)
set_option maxRecDepth 20000 in
theorem gX10_told_X10_isPhase : GoodIn wsX10_told (va_wsS RX10 199 yX10_isPhase wsX10_isPhase) := goodIn_app (goodIn_of _ (by decide +kernel)) ggX10_told_X10_isPhase
set_option maxRecDepth 20000 in
theorem ggX10_told_X10_in : GoodIn wsX10_told wsX10_in := goodIn_r _ [12] (by decide +kernel) (by decide +kernel)
set_option maxRecDepth 20000 in
theorem gX10_told_X10_in : GoodIn wsX10_told (va_wsS RX10 66 yX10_in wsX10_in) := goodIn_app (goodIn_of _ (by decide +kernel)) ggX10_told_X10_in
set_option maxRecDepth 20000 in
theorem ggX10_told_X10_partOf : GoodIn wsX10_told wsX10_partOf := goodIn_r _ [16, 17, 18, 45, 46, 47, 48, 49, 50, 51, 52, 53, 54, 55, 56, 57, 58, 59, 60, 61, 62, 63, 64, 65, 66, 67, 68, 69, 70] (by decide +kernel) (by decide +kernel)
set_option maxRecDepth 20000 in
theorem gX10_told_X10_partOf : GoodIn wsX10_told (wsV RX10 224 RX10 yX10_partOf wsX10_partOf) := goodIn_app (goodIn_of _ (by decide +kernel)) ggX10_told_X10_partOf
set_option maxRecDepth 20000 in
theorem ggX10_told_X10_norm : GoodIn wsX10_told wsX10_norm := goodIn_r _ [22, 23, 24, 25, 26, 8, 27, 4, 17, 18, 28, 29, 30, 31, 32, 33, 34, 35, 36, 37, 38, 39, 40, 10, 11, 12, 41, 42, 43, 44, 45, 46, 47, 48, 49, 50, 51, 52, 53, 54, 55, 56, 57, 58, 59, 60, 61, 62, 63, 64, 65, 66, 67, 68, 69, 70] (by decide +kernel) (by decide +kernel)
set_option maxRecDepth 20000 in
theorem gX10_told_X10_norm : GoodIn wsX10_told (wsV RX10 228 RX10 yX10_norm wsX10_norm) := goodIn_app (goodIn_of _ (by decide +kernel)) ggX10_told_X10_norm
theorem dX10_told_0 : decode cX10_told 0 = .ok (.iload_n 1, 1) := by decide +kernel
theorem dX10_told_1 : decode cX10_told 1 = .ok (.invokestatic 199, 3) := by decide +kernel
theorem dX10_told_4 : decode cX10_told 4 = .ok (.ifCond .ne 7, 3) := by decide +kernel
theorem dX10_told_7 : decode cX10_told 7 = .ok (.ldc2_w 220, 3) := by decide +kernel
theorem dX10_told_10 : decode cX10_told 10 = .ok (.lreturn, 1) := by decide +kernel
theorem dX10_told_11 : decode cX10_told 11 = .ok (.iload_n 2, 1) := by decide +kernel
theorem dX10_told_12 : decode cX10_told 12 = .ok (.i2l, 1) := by decide +kernel
theorem dX10_told_13 : decode cX10_told 13 = .ok (.lconst 0, 1) := by decide +kernel
theorem dX10_told_14 : decode cX10_told 14 = .ok (.ldc2_w 197, 3) := by decide +kernel
theorem dX10_told_17 : decode cX10_told 17 = .ok (.invokestatic 66, 3) := by decide +kernel
theorem dX10_told_20 : decode cX10_told 20 = .ok (.ifCond .eq 13, 3) := by decide +kernel
theorem dX10_told_23 : decode cX10_told 23 = .ok (.iload_n 3, 1) := by decide +kernel
theorem dX10_told_24 : decode cX10_told 24 = .ok (.i2l, 1) := by decide +kernel
theorem dX10_told_25 : decode cX10_told 25 = .ok (.lconst 0, 1) := by decide +kernel
theorem dX10_told_26 : decode cX10_told 26 = .ok (.lconst 1, 1) := by decide +kernel
theorem dX10_told_27 : decode cX10_told 27 = .ok (.invokestatic 66, 3) := by decide +kernel
theorem dX10_told_30 : decode cX10_told 30 = .ok (.ifCond .ne 7, 3) := by decide +kernel
theorem dX10_told_33 : decode cX10_told 33 = .ok (.ldc2_w 222, 3) := by decide +kernel
theorem dX10_told_36 : decode cX10_told 36 = .ok (.lreturn, 1) := by decide +kernel
theorem dX10_told_37 : decode cX10_told 37 = .ok (.iload_n 2, 1) := by decide +kernel
theorem dX10_told_38 : decode cX10_told 38 = .ok (.iconst 2, 1) := by decide +kernel
theorem dX10_told_39 : decode cX10_told 39 = .ok (.if_icmp .ge 14, 3) := by decide +kernel
theorem dX10_told_42 : decode cX10_told 42 = .ok (.aload_n 0, 1) := by decide +kernel
theorem dX10_told_43 : decode cX10_told 43 = .ok (.iconst 2, 1) := by decide +kernel
theorem dX10_told_44 : decode cX10_told 44 = .ok (.iload_n 1, 1) := by decide +kernel
theorem dX10_told_45 : decode cX10_told 45 = .ok (.imul, 1) := by decide +kernel
theorem dX10_told_46 : decode cX10_told 46 = .ok (.iload_n 2, 1) := by decide +kernel
theorem dX10_told_47 : decode cX10_told 47 = .ok (.iadd, 1) := by decide +kernel
theorem dX10_told_48 : decode cX10_told 48 = .ok (.iload_n 3, 1) := by decide +kernel
theorem dX10_told_49 : decode cX10_told 49 = .ok (.invokevirtual 224, 3) := by decide +kernel
theorem dX10_told_52 : decode cX10_told 52 = .ok (.lreturn, 1) := by decide +kernel
theorem dX10_told_53 : decode cX10_told 53 = .ok (.aload_n 0, 1) := by decide +kernel
theorem dX10_told_54 : decode cX10_told 54 = .ok (.iconst 0, 1) := by decide +kernel
theorem dX10_told_55 : decode cX10_told 55 = .ok (.putfield 162, 3) := by decide +kernel
theorem dX10_told_58 : decode cX10_told 58 = .ok (.aload_n 0, 1) := by decide +kernel
theorem dX10_told_59 : decode cX10_told 59 = .ok (.bipush 78, 2) := by decide +kernel
theorem dX10_told_61 : decode cX10_told 61 = .ok (.iconst 2, 1) := by decide +kernel
theorem dX10_told_62 : decode cX10_told 62 = .ok (.iload_n 1, 1) := by decide +kernel
theorem dX10_told_63 : decode cX10_told 63 = .ok (.imul, 1) := by decide +kernel
theorem dX10_told_64 : decode cX10_told 64 = .ok (.invokevirtual 228, 3) := by decide +kernel
theorem dX10_told_67 : decode cX10_told 67 = .ok (.aload_n 0, 1) := by decide +kernel
theorem dX10_told_68 : decode cX10_told 68 = .ok (.getfield 162, 3) := by decide +kernel
theorem dX10_told_71 : decode cX10_told 71 = .ok (.ifCond .eq 9, 3) := by decide +kernel
theorem dX10_told_74 : decode cX10_told 74 = .ok (.ldc2_w 231, 3) := by decide +kernel
theorem dX10_told_77 : decode cX10_told 77 = .ok (.goto 10, 3) := by decide +kernel
theorem dX10_told_80 : decode cX10_told 80 = .ok (.aload_n 0, 1) := by decide +kernel
theorem dX10_told_81 : decode cX10_told 81 = .ok (.bipush 78, 2) := by decide +kernel
theorem dX10_told_83 : decode cX10_told 83 = .ok (.iload_n 3, 1) := by decide +kernel
theorem dX10_told_84 : decode cX10_told 84 = .ok (.invokevirtual 224, 3) := by decide +kernel
theorem dX10_told_87 : decode cX10_told 87 = .ok (.lreturn, 1) := by decide +kernel
theorem dX10_isGreater_0 : decode cX10_isGreater 0 = .ok (.aload_n 0, 1) := by decide +kernel
theorem dX10_isGreater_1 : decode cX10_isGreater 1 = .ok (.getfield 7, 3) := by decide +kernel
theorem dX10_isGreater_4 : decode cX10_isGreater 4 = .ok (.iload_n 1, 1) := by decide +kernel
theorem dX10_isGreater_5 : decode cX10_isGreater 5 = .ok (.laload, 1) := by decide +kernel
theorem dX10_isGreater_6 : decode cX10_isGreater 6 = .ok (.aload_n 0, 1) := by decide +kernel
theorem dX10_isGreater_7 : decode cX10_isGreater 7 = .ok (.getfield 13, 3) := by decide +kernel
theorem dX10_isGreater_10 : decode cX10_isGreater 10 = .ok (.iload_n 2, 1) := by decide +kernel
theorem dX10_isGreater_11 : decode cX10_isGreater 11 = .ok (.laload, 1) := by decide +kernel
theorem dX10_isGreater_12 : decode cX10_isGreater 12 = .ok (.lmul, 1) := by decide +kernel
theorem dX10_isGreater_13 : decode cX10_isGreater 13 = .ok (.aload_n 0, 1) := by decide +kernel
theorem dX10_isGreater_14 : decode cX10_isGreater 14 = .ok (.getfield 7, 3) := by decide +kernel
theorem dX10_isGreater_17 : decode cX10_isGreater 17 = .ok (.iload_n 2, 1) := by decide +kernel
theorem dX10_isGreater_18 : decode cX10_isGreater 18 = .ok (.laload, 1) := by decide +kernel
theorem dX10_isGreater_19 : decode cX10_isGreater 19 = .ok (.aload_n 0, 1) := by decide +kernel
theorem dX10_isGreater_20 : decode cX10_isGreater 20 = .ok (.getfield 13, 3) := by decide +kernel
theorem dX10_isGreater_23 : decode cX10_isGreater 23 = .ok (.iload_n 1, 1) := by decide +kernel
theorem dX10_isGreater_24 : decode cX10_isGreater 24 = .ok (.laload, 1) := by decide +kernel
theorem dX10_isGreater_25 : decode cX10_isGreater 25 = .ok (.lmul, 1) := by decide +kernel
theorem dX10_isGreater_26 : decode cX10_isGreater 26 = .ok (.lcmp, 1) := by decide +kernel
theorem dX10_isGreater_27 : decode cX10_isGreater 27 = .ok (.ifCond .le 7, 3) := by decide +kernel
theorem dX10_isGreater_30 : decode cX10_isGreater 30 = .ok (.iconst 1, 1) := by decide +kernel
theorem dX10_isGreater_31 : decode cX10_isGreater 31 = .ok (.goto 4, 3) := by decide +kernel
theorem dX10_isGreater_34 : decode cX10_isGreater 34 = .ok (.iconst 0, 1) := by decide +kernel
theorem dX10_isGreater_35 : decode cX10_isGreater 35 = .ok (.ireturn, 1) := by decide +kernel
theorem dX10_layNought_0 : decode cX10_layNought 0 = .ok (.iconst 0, 1) := by decide +kernel
theorem dX10_layNought_1 : decode cX10_layNought 1 = .ok (.istore_n 2, 1) := by decide +kernel
theorem dX10_layNought_2 : decode cX10_layNought 2 = .ok (.iload_n 2, 1) := by decide +kernel
theorem dX10_layNought_3 : decode cX10_layNought 3 = .ok (.iconst 2, 1) := by decide +kernel
theorem dX10_layNought_4 : decode cX10_layNought 4 = .ok (.if_icmp .ge 27, 3) := by decide +kernel
theorem dX10_layNought_7 : decode cX10_layNought 7 = .ok (.aload_n 0, 1) := by decide +kernel
theorem dX10_layNought_8 : decode cX10_layNought 8 = .ok (.getfield 7, 3) := by decide +kernel
theorem dX10_layNought_11 : decode cX10_layNought 11 = .ok (.iload_n 1, 1) := by decide +kernel
theorem dX10_layNought_12 : decode cX10_layNought 12 = .ok (.iload_n 2, 1) := by decide +kernel
theorem dX10_layNought_13 : decode cX10_layNought 13 = .ok (.iadd, 1) := by decide +kernel
theorem dX10_layNought_14 : decode cX10_layNought 14 = .ok (.lconst 0, 1) := by decide +kernel
theorem dX10_layNought_15 : decode cX10_layNought 15 = .ok (.lastore, 1) := by decide +kernel
theorem dX10_layNought_16 : decode cX10_layNought 16 = .ok (.aload_n 0, 1) := by decide +kernel
theorem dX10_layNought_17 : decode cX10_layNought 17 = .ok (.getfield 13, 3) := by decide +kernel
theorem dX10_layNought_20 : decode cX10_layNought 20 = .ok (.iload_n 1, 1) := by decide +kernel
theorem dX10_layNought_21 : decode cX10_layNought 21 = .ok (.iload_n 2, 1) := by decide +kernel
theorem dX10_layNought_22 : decode cX10_layNought 22 = .ok (.iadd, 1) := by decide +kernel
theorem dX10_layNought_23 : decode cX10_layNought 23 = .ok (.lconst 1, 1) := by decide +kernel
theorem dX10_layNought_24 : decode cX10_layNought 24 = .ok (.lastore, 1) := by decide +kernel
theorem dX10_layNought_25 : decode cX10_layNought 25 = .ok (.iinc 2 1, 3) := by decide +kernel
theorem dX10_layNought_28 : decode cX10_layNought 28 = .ok (.goto (-26), 3) := by decide +kernel
theorem dX10_layNought_31 : decode cX10_layNought 31 = .ok (.return_, 1) := by decide +kernel
set_option maxRecDepth 20000 in
theorem ggX10_folds_X10_add : GoodIn wsX10_folds wsX10_add := goodIn_r _ [7, 8, 9, 10, 6, 11, 1, 12, 13, 14, 15, 16, 17, 18, 19, 20, 21, 22, 23, 24, 25, 26, 27, 28, 29, 50, 51, 52, 53, 54, 55, 56, 57, 58, 59, 60, 61, 62, 63, 64, 65, 66, 67, 68, 69, 70, 71, 72, 73, 74, 75] (by decide +kernel) (by decide +kernel)
set_option maxRecDepth 20000 in
theorem gX10_folds_X10_add : GoodIn wsX10_folds (wsV RX10 184 RX10 yX10_add wsX10_add) := goodIn_app (goodIn_of _ (by decide +kernel)) ggX10_folds_X10_add
set_option maxRecDepth 20000 in
theorem ggX10_folds_X10_turnW : GoodIn wsX10_folds wsX10_turnW := goodIn_r _ [33, 1, 12, 13, 2, 8, 9, 10, 6, 11, 14, 15, 16, 17, 18, 19, 20, 21, 22, 23, 24, 25, 26, 27, 28, 29, 50, 51, 52, 53, 54, 55, 56, 57, 58, 59, 60, 61, 62, 63, 64, 65, 66, 67, 68, 69, 70, 71, 72, 73, 74, 75] (by decide +kernel) (by decide +kernel)
set_option maxRecDepth 20000 in
theorem gX10_folds_X10_turnW : GoodIn wsX10_folds (wsV RX10 181 RX10 yX10_turnW wsX10_turnW) := goodIn_app (goodIn_of _ (by decide +kernel)) ggX10_folds_X10_turnW
set_option maxRecDepth 20000 in
theorem ggX10_folds_X10_norm : GoodIn wsX10_folds wsX10_norm := goodIn_r _ [37, 2, 38, 39, 40, 6, 41, 1, 12, 13, 14, 15, 16, 17, 18, 19, 20, 21, 22, 23, 24, 25, 26, 27, 28, 29, 8, 9, 10, 11, 50, 51, 52, 53, 54, 55, 56, 57, 58, 59, 60, 61, 62, 63, 64, 65, 66, 67, 68, 69, 70, 71, 72, 73, 74, 75] (by decide +kernel) (by decide +kernel)
set_option maxRecDepth 20000 in
theorem gX10_folds_X10_norm : GoodIn wsX10_folds (wsV RX10 228 RX10 yX10_norm wsX10_norm) := goodIn_app (goodIn_of _ (by decide +kernel)) ggX10_folds_X10_norm
set_option maxRecDepth 20000 in
theorem ggX10_folds_X10_isGreater : GoodIn wsX10_folds wsX10_isGreater := goodIn_r _ [45, 12, 13, 50, 51, 52, 53, 54, 55, 56, 57, 58, 59, 60, 61, 62, 63, 64, 65, 66, 67, 68, 69, 70, 71, 72, 73, 74, 75] (by decide +kernel) (by decide +kernel)
set_option maxRecDepth 20000 in
theorem gX10_folds_X10_isGreater : GoodIn wsX10_folds (wsV RX10 233 RX10 yX10_isGreater wsX10_isGreater) := goodIn_app (goodIn_of _ (by decide +kernel)) ggX10_folds_X10_isGreater
set_option maxRecDepth 20000 in
theorem ggX10_folds_X10_copyTo : GoodIn wsX10_folds wsX10_copyTo := goodIn_r _ [49, 12, 13, 50, 51, 52, 53, 54, 55, 56, 57, 58, 59, 60, 61, 62, 63, 64, 65, 66, 67, 68, 69, 70, 71, 72, 73, 74, 75] (by decide +kernel) (by decide +kernel)
set_option maxRecDepth 20000 in
theorem gX10_folds_X10_copyTo : GoodIn wsX10_folds (wsV RX10 178 RX10 yX10_copyTo wsX10_copyTo) := goodIn_app (goodIn_of _ (by decide +kernel)) ggX10_folds_X10_copyTo
theorem dX10_folds_0 : decode cX10_folds 0 = .ok (.iload_n 1, 1) := by decide +kernel
theorem dX10_folds_1 : decode cX10_folds 1 = .ok (.tableswitch 98 0 2 #[27, 38, 55], 27) := by decide +kernel
theorem dX10_folds_28 : decode cX10_folds 28 = .ok (.aload_n 0, 1) := by decide +kernel
theorem dX10_folds_29 : decode cX10_folds 29 = .ok (.bipush 82, 2) := by decide +kernel
theorem dX10_folds_31 : decode cX10_folds 31 = .ok (.iload_n 2, 1) := by decide +kernel
theorem dX10_folds_32 : decode cX10_folds 32 = .ok (.lconst 1, 1) := by decide +kernel
theorem dX10_folds_33 : decode cX10_folds 33 = .ok (.invokevirtual 184, 3) := by decide +kernel
theorem dX10_folds_36 : decode cX10_folds 36 = .ok (.goto 73, 3) := by decide +kernel
theorem dX10_folds_39 : decode cX10_folds 39 = .ok (.aload_n 0, 1) := by decide +kernel
theorem dX10_folds_40 : decode cX10_folds 40 = .ok (.bipush 82, 2) := by decide +kernel
theorem dX10_folds_42 : decode cX10_folds 42 = .ok (.invokevirtual 181, 3) := by decide +kernel
theorem dX10_folds_45 : decode cX10_folds 45 = .ok (.aload_n 0, 1) := by decide +kernel
theorem dX10_folds_46 : decode cX10_folds 46 = .ok (.bipush 82, 2) := by decide +kernel
theorem dX10_folds_48 : decode cX10_folds 48 = .ok (.iload_n 2, 1) := by decide +kernel
theorem dX10_folds_49 : decode cX10_folds 49 = .ok (.lconst 1, 1) := by decide +kernel
theorem dX10_folds_50 : decode cX10_folds 50 = .ok (.invokevirtual 184, 3) := by decide +kernel
theorem dX10_folds_53 : decode cX10_folds 53 = .ok (.goto 56, 3) := by decide +kernel
theorem dX10_folds_56 : decode cX10_folds 56 = .ok (.aload_n 0, 1) := by decide +kernel
theorem dX10_folds_57 : decode cX10_folds 57 = .ok (.bipush 78, 2) := by decide +kernel
theorem dX10_folds_59 : decode cX10_folds 59 = .ok (.bipush 82, 2) := by decide +kernel
theorem dX10_folds_61 : decode cX10_folds 61 = .ok (.invokevirtual 228, 3) := by decide +kernel
theorem dX10_folds_64 : decode cX10_folds 64 = .ok (.aload_n 0, 1) := by decide +kernel
theorem dX10_folds_65 : decode cX10_folds 65 = .ok (.bipush 79, 2) := by decide +kernel
theorem dX10_folds_67 : decode cX10_folds 67 = .ok (.iload_n 2, 1) := by decide +kernel
theorem dX10_folds_68 : decode cX10_folds 68 = .ok (.invokevirtual 228, 3) := by decide +kernel
theorem dX10_folds_71 : decode cX10_folds 71 = .ok (.aload_n 0, 1) := by decide +kernel
theorem dX10_folds_72 : decode cX10_folds 72 = .ok (.getfield 162, 3) := by decide +kernel
theorem dX10_folds_75 : decode cX10_folds 75 = .ok (.ifCond .ne 34, 3) := by decide +kernel
theorem dX10_folds_78 : decode cX10_folds 78 = .ok (.aload_n 0, 1) := by decide +kernel
theorem dX10_folds_79 : decode cX10_folds 79 = .ok (.bipush 79, 2) := by decide +kernel
theorem dX10_folds_81 : decode cX10_folds 81 = .ok (.bipush 78, 2) := by decide +kernel
theorem dX10_folds_83 : decode cX10_folds 83 = .ok (.invokevirtual 233, 3) := by decide +kernel
theorem dX10_folds_86 : decode cX10_folds 86 = .ok (.ifCond .eq 23, 3) := by decide +kernel
theorem dX10_folds_89 : decode cX10_folds 89 = .ok (.aload_n 0, 1) := by decide +kernel
theorem dX10_folds_90 : decode cX10_folds 90 = .ok (.bipush 82, 2) := by decide +kernel
theorem dX10_folds_92 : decode cX10_folds 92 = .ok (.iload_n 2, 1) := by decide +kernel
theorem dX10_folds_93 : decode cX10_folds 93 = .ok (.invokevirtual 178, 3) := by decide +kernel
theorem dX10_folds_96 : decode cX10_folds 96 = .ok (.goto 13, 3) := by decide +kernel
theorem dX10_folds_99 : decode cX10_folds 99 = .ok (.aload_n 0, 1) := by decide +kernel
theorem dX10_folds_100 : decode cX10_folds 100 = .ok (.bipush 82, 2) := by decide +kernel
theorem dX10_folds_102 : decode cX10_folds 102 = .ok (.iload_n 2, 1) := by decide +kernel
theorem dX10_folds_103 : decode cX10_folds 103 = .ok (.ldc2_w 176, 3) := by decide +kernel
theorem dX10_folds_106 : decode cX10_folds 106 = .ok (.invokevirtual 184, 3) := by decide +kernel
theorem dX10_folds_109 : decode cX10_folds 109 = .ok (.return_, 1) := by decide +kernel
set_option maxRecDepth 20000 in
theorem ggX10_fold_X10_in : GoodIn wsX10_fold wsX10_in := goodIn_r _ [8] (by decide +kernel) (by decide +kernel)
set_option maxRecDepth 20000 in
theorem gX10_fold_X10_in : GoodIn wsX10_fold (va_wsS RX10 66 yX10_in wsX10_in) := goodIn_app (goodIn_of _ (by decide +kernel)) ggX10_fold_X10_in
set_option maxRecDepth 20000 in
theorem ggX10_fold_X10_layNought : GoodIn wsX10_fold wsX10_layNought := goodIn_r _ [12, 13, 14, 65, 66, 67, 68, 69, 70, 71, 72, 73, 74, 75, 76, 77, 78, 79, 80, 81, 82, 83, 84, 85, 86, 87, 88, 89, 90] (by decide +kernel) (by decide +kernel)
set_option maxRecDepth 20000 in
theorem gX10_fold_X10_layNought : GoodIn wsX10_fold (wsV RX10 237 RX10 yX10_layNought wsX10_layNought) := goodIn_app (goodIn_of _ (by decide +kernel)) ggX10_fold_X10_layNought
set_option maxRecDepth 20000 in
theorem ggX10_fold_X10_folds : GoodIn wsX10_fold wsX10_folds := goodIn_r _ [18, 3, 19, 20, 21, 22, 7, 23, 24, 25, 26, 27, 13, 14, 28, 29, 30, 31, 32, 33, 34, 35, 36, 37, 38, 39, 40, 5, 6, 8, 41, 42, 43, 44, 45, 46, 47, 48, 49, 50, 51, 52, 53, 54, 55, 56, 57, 58, 59, 60, 65, 66, 67, 68, 69, 70, 71, 72, 73, 74, 75, 76, 77, 78, 79, 80, 81, 82, 83, 84, 85, 86, 87, 88, 89, 90] (by decide +kernel) (by decide +kernel)
set_option maxRecDepth 20000 in
theorem gX10_fold_X10_folds : GoodIn wsX10_fold (wsV RX10 240 RX10 yX10_folds wsX10_folds) := goodIn_app (goodIn_of _ (by decide +kernel)) ggX10_fold_X10_folds
set_option maxRecDepth 20000 in
theorem ggX10_fold_X10_partOf : GoodIn wsX10_fold wsX10_partOf := goodIn_r _ [64, 13, 14, 65, 66, 67, 68, 69, 70, 71, 72, 73, 74, 75, 76, 77, 78, 79, 80, 81, 82, 83, 84, 85, 86, 87, 88, 89, 90] (by decide +kernel) (by decide +kernel)
set_option maxRecDepth 20000 in
theorem gX10_fold_X10_partOf : GoodIn wsX10_fold (wsV RX10 224 RX10 yX10_partOf wsX10_partOf) := goodIn_app (goodIn_of _ (by decide +kernel)) ggX10_fold_X10_partOf
theorem dX10_fold_0 : decode cX10_fold 0 = .ok (.iload_n 1, 1) := by decide +kernel
theorem dX10_fold_1 : decode cX10_fold 1 = .ok (.i2l, 1) := by decide +kernel
theorem dX10_fold_2 : decode cX10_fold 2 = .ok (.lconst 0, 1) := by decide +kernel
theorem dX10_fold_3 : decode cX10_fold 3 = .ok (.ldc2_w 188, 3) := by decide +kernel
theorem dX10_fold_6 : decode cX10_fold 6 = .ok (.invokestatic 66, 3) := by decide +kernel
theorem dX10_fold_9 : decode cX10_fold 9 = .ok (.ifCond .eq 23, 3) := by decide +kernel
theorem dX10_fold_12 : decode cX10_fold 12 = .ok (.iload_n 2, 1) := by decide +kernel
theorem dX10_fold_13 : decode cX10_fold 13 = .ok (.i2l, 1) := by decide +kernel
theorem dX10_fold_14 : decode cX10_fold 14 = .ok (.lconst 0, 1) := by decide +kernel
theorem dX10_fold_15 : decode cX10_fold 15 = .ok (.lconst 1, 1) := by decide +kernel
theorem dX10_fold_16 : decode cX10_fold 16 = .ok (.invokestatic 66, 3) := by decide +kernel
theorem dX10_fold_19 : decode cX10_fold 19 = .ok (.ifCond .eq 13, 3) := by decide +kernel
theorem dX10_fold_22 : decode cX10_fold 22 = .ok (.iload_n 3, 1) := by decide +kernel
theorem dX10_fold_23 : decode cX10_fold 23 = .ok (.i2l, 1) := by decide +kernel
theorem dX10_fold_24 : decode cX10_fold 24 = .ok (.lconst 0, 1) := by decide +kernel
theorem dX10_fold_25 : decode cX10_fold 25 = .ok (.lconst 1, 1) := by decide +kernel
theorem dX10_fold_26 : decode cX10_fold 26 = .ok (.invokestatic 66, 3) := by decide +kernel
theorem dX10_fold_29 : decode cX10_fold 29 = .ok (.ifCond .ne 7, 3) := by decide +kernel
theorem dX10_fold_32 : decode cX10_fold 32 = .ok (.ldc2_w 222, 3) := by decide +kernel
theorem dX10_fold_35 : decode cX10_fold 35 = .ok (.lreturn, 1) := by decide +kernel
theorem dX10_fold_36 : decode cX10_fold 36 = .ok (.aload_n 0, 1) := by decide +kernel
theorem dX10_fold_37 : decode cX10_fold 37 = .ok (.iconst 0, 1) := by decide +kernel
theorem dX10_fold_38 : decode cX10_fold 38 = .ok (.putfield 162, 3) := by decide +kernel
theorem dX10_fold_41 : decode cX10_fold 41 = .ok (.aload_n 0, 1) := by decide +kernel
theorem dX10_fold_42 : decode cX10_fold 42 = .ok (.bipush 82, 2) := by decide +kernel
theorem dX10_fold_44 : decode cX10_fold 44 = .ok (.invokevirtual 237, 3) := by decide +kernel
theorem dX10_fold_47 : decode cX10_fold 47 = .ok (.iconst 0, 1) := by decide +kernel
theorem dX10_fold_48 : decode cX10_fold 48 = .ok (.istore 4, 2) := by decide +kernel
theorem dX10_fold_50 : decode cX10_fold 50 = .ok (.iload 4, 2) := by decide +kernel
theorem dX10_fold_52 : decode cX10_fold 52 = .ok (.iconst 3, 1) := by decide +kernel
theorem dX10_fold_53 : decode cX10_fold 53 = .ok (.if_icmp .ge 18, 3) := by decide +kernel
theorem dX10_fold_56 : decode cX10_fold 56 = .ok (.aload_n 0, 1) := by decide +kernel
theorem dX10_fold_57 : decode cX10_fold 57 = .ok (.iload_n 1, 1) := by decide +kernel
theorem dX10_fold_58 : decode cX10_fold 58 = .ok (.iconst 2, 1) := by decide +kernel
theorem dX10_fold_59 : decode cX10_fold 59 = .ok (.iload 4, 2) := by decide +kernel
theorem dX10_fold_61 : decode cX10_fold 61 = .ok (.imul, 1) := by decide +kernel
theorem dX10_fold_62 : decode cX10_fold 62 = .ok (.invokevirtual 240, 3) := by decide +kernel
theorem dX10_fold_65 : decode cX10_fold 65 = .ok (.iinc 4 1, 3) := by decide +kernel
theorem dX10_fold_68 : decode cX10_fold 68 = .ok (.goto (-18), 3) := by decide +kernel
theorem dX10_fold_71 : decode cX10_fold 71 = .ok (.aload_n 0, 1) := by decide +kernel
theorem dX10_fold_72 : decode cX10_fold 72 = .ok (.getfield 162, 3) := by decide +kernel
theorem dX10_fold_75 : decode cX10_fold 75 = .ok (.ifCond .eq 9, 3) := by decide +kernel
theorem dX10_fold_78 : decode cX10_fold 78 = .ok (.ldc2_w 231, 3) := by decide +kernel
theorem dX10_fold_81 : decode cX10_fold 81 = .ok (.goto 12, 3) := by decide +kernel
theorem dX10_fold_84 : decode cX10_fold 84 = .ok (.aload_n 0, 1) := by decide +kernel
theorem dX10_fold_85 : decode cX10_fold 85 = .ok (.bipush 82, 2) := by decide +kernel
theorem dX10_fold_87 : decode cX10_fold 87 = .ok (.iload_n 2, 1) := by decide +kernel
theorem dX10_fold_88 : decode cX10_fold 88 = .ok (.iadd, 1) := by decide +kernel
theorem dX10_fold_89 : decode cX10_fold 89 = .ok (.iload_n 3, 1) := by decide +kernel
theorem dX10_fold_90 : decode cX10_fold 90 = .ok (.invokevirtual 224, 3) := by decide +kernel
theorem dX10_fold_93 : decode cX10_fold 93 = .ok (.lreturn, 1) := by decide +kernel
set_option maxRecDepth 20000 in
theorem ggX10_most_X10_in : GoodIn wsX10_most wsX10_in := goodIn_r _ [9] (by decide +kernel) (by decide +kernel)
set_option maxRecDepth 20000 in
theorem gX10_most_X10_in : GoodIn wsX10_most (va_wsS RX10 66 yX10_in wsX10_in) := goodIn_app (goodIn_of _ (by decide +kernel)) ggX10_most_X10_in
set_option maxRecDepth 20000 in
theorem ggX10_most_X10_copyTo : GoodIn wsX10_most wsX10_copyTo := goodIn_r _ [13, 5, 14, 49, 50, 51, 52, 53, 54, 55, 56, 57, 58, 59, 60, 61, 62, 63, 64, 65, 66, 67, 68, 69, 70, 71, 72, 73, 74] (by decide +kernel) (by decide +kernel)
set_option maxRecDepth 20000 in
theorem gX10_most_X10_copyTo : GoodIn wsX10_most (wsV RX10 178 RX10 yX10_copyTo wsX10_copyTo) := goodIn_app (goodIn_of _ (by decide +kernel)) ggX10_most_X10_copyTo
set_option maxRecDepth 20000 in
theorem ggX10_most_X10_add : GoodIn wsX10_most wsX10_add := goodIn_r _ [18, 19, 20, 21, 8, 22, 3, 5, 14, 23, 24, 25, 26, 27, 28, 29, 30, 31, 32, 33, 34, 35, 6, 7, 9, 49, 50, 51, 52, 53, 54, 55, 56, 57, 58, 59, 60, 61, 62, 63, 64, 65, 66, 67, 68, 69, 70, 71, 72, 73, 74] (by decide +kernel) (by decide +kernel)
set_option maxRecDepth 20000 in
theorem gX10_most_X10_add : GoodIn wsX10_most (wsV RX10 184 RX10 yX10_add wsX10_add) := goodIn_app (goodIn_of _ (by decide +kernel)) ggX10_most_X10_add
set_option maxRecDepth 20000 in
theorem ggX10_most_X10_norm : GoodIn wsX10_most wsX10_norm := goodIn_r _ [39, 40, 41, 42, 43, 8, 44, 3, 5, 14, 23, 24, 25, 26, 27, 28, 29, 30, 31, 32, 33, 34, 35, 6, 7, 9, 19, 20, 21, 22, 49, 50, 51, 52, 53, 54, 55, 56, 57, 58, 59, 60, 61, 62, 63, 64, 65, 66, 67, 68, 69, 70, 71, 72, 73, 74] (by decide +kernel) (by decide +kernel)
set_option maxRecDepth 20000 in
theorem gX10_most_X10_norm : GoodIn wsX10_most (wsV RX10 228 RX10 yX10_norm wsX10_norm) := goodIn_app (goodIn_of _ (by decide +kernel)) ggX10_most_X10_norm
set_option maxRecDepth 20000 in
theorem ggX10_most_X10_isGreater : GoodIn wsX10_most wsX10_isGreater := goodIn_r _ [48, 5, 14, 49, 50, 51, 52, 53, 54, 55, 56, 57, 58, 59, 60, 61, 62, 63, 64, 65, 66, 67, 68, 69, 70, 71, 72, 73, 74] (by decide +kernel) (by decide +kernel)
set_option maxRecDepth 20000 in
theorem gX10_most_X10_isGreater : GoodIn wsX10_most (wsV RX10 233 RX10 yX10_isGreater wsX10_isGreater) := goodIn_app (goodIn_of _ (by decide +kernel)) ggX10_most_X10_isGreater
theorem dX10_most_0 : decode cX10_most 0 = .ok (.iload_n 1, 1) := by decide +kernel
theorem dX10_most_1 : decode cX10_most 1 = .ok (.i2l, 1) := by decide +kernel
theorem dX10_most_2 : decode cX10_most 2 = .ok (.lconst 0, 1) := by decide +kernel
theorem dX10_most_3 : decode cX10_most 3 = .ok (.ldc2_w 197, 3) := by decide +kernel
theorem dX10_most_6 : decode cX10_most 6 = .ok (.invokestatic 66, 3) := by decide +kernel
theorem dX10_most_9 : decode cX10_most 9 = .ok (.ifCond .ne 6, 3) := by decide +kernel
theorem dX10_most_12 : decode cX10_most 12 = .ok (.ldc 70, 2) := by decide +kernel
theorem dX10_most_14 : decode cX10_most 14 = .ok (.ireturn, 1) := by decide +kernel
theorem dX10_most_15 : decode cX10_most 15 = .ok (.aload_n 0, 1) := by decide +kernel
theorem dX10_most_16 : decode cX10_most 16 = .ok (.iconst 0, 1) := by decide +kernel
theorem dX10_most_17 : decode cX10_most 17 = .ok (.putfield 162, 3) := by decide +kernel
theorem dX10_most_20 : decode cX10_most 20 = .ok (.iload_n 1, 1) := by decide +kernel
theorem dX10_most_21 : decode cX10_most 21 = .ok (.iconst 2, 1) := by decide +kernel
theorem dX10_most_22 : decode cX10_most 22 = .ok (.if_icmp .ne 68, 3) := by decide +kernel
theorem dX10_most_25 : decode cX10_most 25 = .ok (.aload_n 0, 1) := by decide +kernel
theorem dX10_most_26 : decode cX10_most 26 = .ok (.bipush 82, 2) := by decide +kernel
theorem dX10_most_28 : decode cX10_most 28 = .ok (.iconst 0, 1) := by decide +kernel
theorem dX10_most_29 : decode cX10_most 29 = .ok (.invokevirtual 178, 3) := by decide +kernel
theorem dX10_most_32 : decode cX10_most 32 = .ok (.aload_n 0, 1) := by decide +kernel
theorem dX10_most_33 : decode cX10_most 33 = .ok (.bipush 82, 2) := by decide +kernel
theorem dX10_most_35 : decode cX10_most 35 = .ok (.iconst 2, 1) := by decide +kernel
theorem dX10_most_36 : decode cX10_most 36 = .ok (.lconst 1, 1) := by decide +kernel
theorem dX10_most_37 : decode cX10_most 37 = .ok (.invokevirtual 184, 3) := by decide +kernel
theorem dX10_most_40 : decode cX10_most 40 = .ok (.aload_n 0, 1) := by decide +kernel
theorem dX10_most_41 : decode cX10_most 41 = .ok (.bipush 82, 2) := by decide +kernel
theorem dX10_most_43 : decode cX10_most 43 = .ok (.iconst 4, 1) := by decide +kernel
theorem dX10_most_44 : decode cX10_most 44 = .ok (.lconst 1, 1) := by decide +kernel
theorem dX10_most_45 : decode cX10_most 45 = .ok (.invokevirtual 184, 3) := by decide +kernel
theorem dX10_most_48 : decode cX10_most 48 = .ok (.aload_n 0, 1) := by decide +kernel
theorem dX10_most_49 : decode cX10_most 49 = .ok (.getfield 162, 3) := by decide +kernel
theorem dX10_most_52 : decode cX10_most 52 = .ok (.ifCond .eq 8, 3) := by decide +kernel
theorem dX10_most_55 : decode cX10_most 55 = .ok (.ldc 215, 2) := by decide +kernel
theorem dX10_most_57 : decode cX10_most 57 = .ok (.goto 32, 3) := by decide +kernel
theorem dX10_most_60 : decode cX10_most 60 = .ok (.aload_n 0, 1) := by decide +kernel
theorem dX10_most_61 : decode cX10_most 61 = .ok (.getfield 7, 3) := by decide +kernel
theorem dX10_most_64 : decode cX10_most 64 = .ok (.bipush 82, 2) := by decide +kernel
theorem dX10_most_66 : decode cX10_most 66 = .ok (.laload, 1) := by decide +kernel
theorem dX10_most_67 : decode cX10_most 67 = .ok (.lconst 0, 1) := by decide +kernel
theorem dX10_most_68 : decode cX10_most 68 = .ok (.lcmp, 1) := by decide +kernel
theorem dX10_most_69 : decode cX10_most 69 = .ok (.ifCond .ne 19, 3) := by decide +kernel
theorem dX10_most_72 : decode cX10_most 72 = .ok (.aload_n 0, 1) := by decide +kernel
theorem dX10_most_73 : decode cX10_most 73 = .ok (.getfield 7, 3) := by decide +kernel
theorem dX10_most_76 : decode cX10_most 76 = .ok (.bipush 83, 2) := by decide +kernel
theorem dX10_most_78 : decode cX10_most 78 = .ok (.laload, 1) := by decide +kernel
theorem dX10_most_79 : decode cX10_most 79 = .ok (.lconst 0, 1) := by decide +kernel
theorem dX10_most_80 : decode cX10_most 80 = .ok (.lcmp, 1) := by decide +kernel
theorem dX10_most_81 : decode cX10_most 81 = .ok (.ifCond .ne 7, 3) := by decide +kernel
theorem dX10_most_84 : decode cX10_most 84 = .ok (.iconst 1, 1) := by decide +kernel
theorem dX10_most_85 : decode cX10_most 85 = .ok (.goto 4, 3) := by decide +kernel
theorem dX10_most_88 : decode cX10_most 88 = .ok (.iconst 0, 1) := by decide +kernel
theorem dX10_most_89 : decode cX10_most 89 = .ok (.ireturn, 1) := by decide +kernel
theorem dX10_most_90 : decode cX10_most 90 = .ok (.iconst 0, 1) := by decide +kernel
theorem dX10_most_91 : decode cX10_most 91 = .ok (.istore_n 2, 1) := by decide +kernel
theorem dX10_most_92 : decode cX10_most 92 = .ok (.iload_n 2, 1) := by decide +kernel
theorem dX10_most_93 : decode cX10_most 93 = .ok (.iconst 3, 1) := by decide +kernel
theorem dX10_most_94 : decode cX10_most 94 = .ok (.if_icmp .ge 20, 3) := by decide +kernel
theorem dX10_most_97 : decode cX10_most 97 = .ok (.aload_n 0, 1) := by decide +kernel
theorem dX10_most_98 : decode cX10_most 98 = .ok (.bipush 78, 2) := by decide +kernel
theorem dX10_most_100 : decode cX10_most 100 = .ok (.iload_n 2, 1) := by decide +kernel
theorem dX10_most_101 : decode cX10_most 101 = .ok (.iadd, 1) := by decide +kernel
theorem dX10_most_102 : decode cX10_most 102 = .ok (.iconst 2, 1) := by decide +kernel
theorem dX10_most_103 : decode cX10_most 103 = .ok (.iload_n 2, 1) := by decide +kernel
theorem dX10_most_104 : decode cX10_most 104 = .ok (.imul, 1) := by decide +kernel
theorem dX10_most_105 : decode cX10_most 105 = .ok (.invokevirtual 228, 3) := by decide +kernel
theorem dX10_most_108 : decode cX10_most 108 = .ok (.iinc 2 1, 3) := by decide +kernel
theorem dX10_most_111 : decode cX10_most 111 = .ok (.goto (-19), 3) := by decide +kernel
theorem dX10_most_114 : decode cX10_most 114 = .ok (.aload_n 0, 1) := by decide +kernel
theorem dX10_most_115 : decode cX10_most 115 = .ok (.getfield 162, 3) := by decide +kernel
theorem dX10_most_118 : decode cX10_most 118 = .ok (.ifCond .eq 6, 3) := by decide +kernel
theorem dX10_most_121 : decode cX10_most 121 = .ok (.ldc 215, 2) := by decide +kernel
theorem dX10_most_123 : decode cX10_most 123 = .ok (.ireturn, 1) := by decide +kernel
theorem dX10_most_124 : decode cX10_most 124 = .ok (.aload_n 0, 1) := by decide +kernel
theorem dX10_most_125 : decode cX10_most 125 = .ok (.bipush 79, 2) := by decide +kernel
theorem dX10_most_127 : decode cX10_most 127 = .ok (.bipush 78, 2) := by decide +kernel
theorem dX10_most_129 : decode cX10_most 129 = .ok (.invokevirtual 233, 3) := by decide +kernel
theorem dX10_most_132 : decode cX10_most 132 = .ok (.ifCond .eq 7, 3) := by decide +kernel
theorem dX10_most_135 : decode cX10_most 135 = .ok (.iconst 1, 1) := by decide +kernel
theorem dX10_most_136 : decode cX10_most 136 = .ok (.goto 4, 3) := by decide +kernel
theorem dX10_most_139 : decode cX10_most 139 = .ok (.iconst 0, 1) := by decide +kernel
theorem dX10_most_140 : decode cX10_most 140 = .ok (.istore_n 2, 1) := by decide +kernel
theorem dX10_most_141 : decode cX10_most 141 = .ok (.aload_n 0, 1) := by decide +kernel
theorem dX10_most_142 : decode cX10_most 142 = .ok (.bipush 80, 2) := by decide +kernel
theorem dX10_most_144 : decode cX10_most 144 = .ok (.bipush 78, 2) := by decide +kernel
theorem dX10_most_146 : decode cX10_most 146 = .ok (.iload_n 2, 1) := by decide +kernel
theorem dX10_most_147 : decode cX10_most 147 = .ok (.iadd, 1) := by decide +kernel
theorem dX10_most_148 : decode cX10_most 148 = .ok (.invokevirtual 233, 3) := by decide +kernel
theorem dX10_most_151 : decode cX10_most 151 = .ok (.ifCond .eq 7, 3) := by decide +kernel
theorem dX10_most_154 : decode cX10_most 154 = .ok (.iconst 2, 1) := by decide +kernel
theorem dX10_most_155 : decode cX10_most 155 = .ok (.goto 4, 3) := by decide +kernel
theorem dX10_most_158 : decode cX10_most 158 = .ok (.iload_n 2, 1) := by decide +kernel
theorem dX10_most_159 : decode cX10_most 159 = .ok (.istore_n 2, 1) := by decide +kernel
theorem dX10_most_160 : decode cX10_most 160 = .ok (.iconst 1, 1) := by decide +kernel
theorem dX10_most_161 : decode cX10_most 161 = .ok (.istore_n 3, 1) := by decide +kernel
theorem dX10_most_162 : decode cX10_most 162 = .ok (.iconst 1, 1) := by decide +kernel
theorem dX10_most_163 : decode cX10_most 163 = .ok (.istore 4, 2) := by decide +kernel
theorem dX10_most_165 : decode cX10_most 165 = .ok (.iload 4, 2) := by decide +kernel
theorem dX10_most_167 : decode cX10_most 167 = .ok (.iconst 3, 1) := by decide +kernel
theorem dX10_most_168 : decode cX10_most 168 = .ok (.if_icmp .ge 47, 3) := by decide +kernel
theorem dX10_most_171 : decode cX10_most 171 = .ok (.iload_n 3, 1) := by decide +kernel
theorem dX10_most_172 : decode cX10_most 172 = .ok (.ifCond .eq 35, 3) := by decide +kernel
theorem dX10_most_175 : decode cX10_most 175 = .ok (.aload_n 0, 1) := by decide +kernel
theorem dX10_most_176 : decode cX10_most 176 = .ok (.bipush 78, 2) := by decide +kernel
theorem dX10_most_178 : decode cX10_most 178 = .ok (.bipush 78, 2) := by decide +kernel
theorem dX10_most_180 : decode cX10_most 180 = .ok (.iload 4, 2) := by decide +kernel
theorem dX10_most_182 : decode cX10_most 182 = .ok (.iadd, 1) := by decide +kernel
theorem dX10_most_183 : decode cX10_most 183 = .ok (.invokevirtual 233, 3) := by decide +kernel
theorem dX10_most_186 : decode cX10_most 186 = .ok (.ifCond .ne 21, 3) := by decide +kernel
theorem dX10_most_189 : decode cX10_most 189 = .ok (.aload_n 0, 1) := by decide +kernel
theorem dX10_most_190 : decode cX10_most 190 = .ok (.bipush 78, 2) := by decide +kernel
theorem dX10_most_192 : decode cX10_most 192 = .ok (.iload 4, 2) := by decide +kernel
theorem dX10_most_194 : decode cX10_most 194 = .ok (.iadd, 1) := by decide +kernel
theorem dX10_most_195 : decode cX10_most 195 = .ok (.bipush 78, 2) := by decide +kernel
theorem dX10_most_197 : decode cX10_most 197 = .ok (.invokevirtual 233, 3) := by decide +kernel
theorem dX10_most_200 : decode cX10_most 200 = .ok (.ifCond .ne 7, 3) := by decide +kernel
theorem dX10_most_203 : decode cX10_most 203 = .ok (.iconst 1, 1) := by decide +kernel
theorem dX10_most_204 : decode cX10_most 204 = .ok (.goto 4, 3) := by decide +kernel
theorem dX10_most_207 : decode cX10_most 207 = .ok (.iconst 0, 1) := by decide +kernel
theorem dX10_most_208 : decode cX10_most 208 = .ok (.istore_n 3, 1) := by decide +kernel
theorem dX10_most_209 : decode cX10_most 209 = .ok (.iinc 4 1, 3) := by decide +kernel
theorem dX10_most_212 : decode cX10_most 212 = .ok (.goto (-47), 3) := by decide +kernel
theorem dX10_most_215 : decode cX10_most 215 = .ok (.iload_n 1, 1) := by decide +kernel
theorem dX10_most_216 : decode cX10_most 216 = .ok (.ifCond .ne 7, 3) := by decide +kernel
theorem dX10_most_219 : decode cX10_most 219 = .ok (.iload_n 2, 1) := by decide +kernel
theorem dX10_most_220 : decode cX10_most 220 = .ok (.goto 12, 3) := by decide +kernel
theorem dX10_most_223 : decode cX10_most 223 = .ok (.iload_n 3, 1) := by decide +kernel
theorem dX10_most_224 : decode cX10_most 224 = .ok (.ifCond .eq 7, 3) := by decide +kernel
theorem dX10_most_227 : decode cX10_most 227 = .ok (.iconst 1, 1) := by decide +kernel
theorem dX10_most_228 : decode cX10_most 228 = .ok (.goto 4, 3) := by decide +kernel
theorem dX10_most_231 : decode cX10_most 231 = .ok (.iconst 0, 1) := by decide +kernel
theorem dX10_most_232 : decode cX10_most 232 = .ok (.ireturn, 1) := by decide +kernel
set_option maxRecDepth 20000 in
theorem ggX10_layFault_X10_upTo : GoodIn wsX10_layFault wsX10_upTo := goodIn_r _ [9, 10, 11, 12, 13, 14, 15, 16, 17, 18, 19, 20, 21, 22, 23, 24, 25, 26, 27, 28, 29, 30, 31, 32, 33, 34, 35, 36, 37] (by decide +kernel) (by decide +kernel)
set_option maxRecDepth 20000 in
theorem gX10_layFault_X10_upTo : GoodIn wsX10_layFault (wsV RX10 146 RX10 yX10_upTo wsX10_upTo) := goodIn_app (goodIn_of _ (by decide +kernel)) ggX10_layFault_X10_upTo
theorem dX10_layFault_0 : decode cX10_layFault 0 = .ok (.aload_n 0, 1) := by decide +kernel
theorem dX10_layFault_1 : decode cX10_layFault 1 = .ok (.iload_n 2, 1) := by decide +kernel
theorem dX10_layFault_2 : decode cX10_layFault 2 = .ok (.iconst 0, 1) := by decide +kernel
theorem dX10_layFault_3 : decode cX10_layFault 3 = .ok (.invokevirtual 146, 3) := by decide +kernel
theorem dX10_layFault_6 : decode cX10_layFault 6 = .ok (.i2l, 1) := by decide +kernel
theorem dX10_layFault_7 : decode cX10_layFault 7 = .ok (.lstore 4, 2) := by decide +kernel
theorem dX10_layFault_9 : decode cX10_layFault 9 = .ok (.aload_n 0, 1) := by decide +kernel
theorem dX10_layFault_10 : decode cX10_layFault 10 = .ok (.iload_n 2, 1) := by decide +kernel
theorem dX10_layFault_11 : decode cX10_layFault 11 = .ok (.iconst 1, 1) := by decide +kernel
theorem dX10_layFault_12 : decode cX10_layFault 12 = .ok (.invokevirtual 146, 3) := by decide +kernel
theorem dX10_layFault_15 : decode cX10_layFault 15 = .ok (.i2l, 1) := by decide +kernel
theorem dX10_layFault_16 : decode cX10_layFault 16 = .ok (.lstore 6, 2) := by decide +kernel
theorem dX10_layFault_18 : decode cX10_layFault 18 = .ok (.aload_n 0, 1) := by decide +kernel
theorem dX10_layFault_19 : decode cX10_layFault 19 = .ok (.iload_n 2, 1) := by decide +kernel
theorem dX10_layFault_20 : decode cX10_layFault 20 = .ok (.iconst 2, 1) := by decide +kernel
theorem dX10_layFault_21 : decode cX10_layFault 21 = .ok (.invokevirtual 146, 3) := by decide +kernel
theorem dX10_layFault_24 : decode cX10_layFault 24 = .ok (.i2l, 1) := by decide +kernel
theorem dX10_layFault_25 : decode cX10_layFault 25 = .ok (.lstore 8, 2) := by decide +kernel
theorem dX10_layFault_27 : decode cX10_layFault 27 = .ok (.lload 4, 2) := by decide +kernel
theorem dX10_layFault_29 : decode cX10_layFault 29 = .ok (.ldc2_w 188, 3) := by decide +kernel
theorem dX10_layFault_32 : decode cX10_layFault 32 = .ok (.iload_n 3, 1) := by decide +kernel
theorem dX10_layFault_33 : decode cX10_layFault 33 = .ok (.i2l, 1) := by decide +kernel
theorem dX10_layFault_34 : decode cX10_layFault 34 = .ok (.lmul, 1) := by decide +kernel
theorem dX10_layFault_35 : decode cX10_layFault 35 = .ok (.ladd, 1) := by decide +kernel
theorem dX10_layFault_36 : decode cX10_layFault 36 = .ok (.lstore 10, 2) := by decide +kernel
theorem dX10_layFault_38 : decode cX10_layFault 38 = .ok (.aload_n 0, 1) := by decide +kernel
theorem dX10_layFault_39 : decode cX10_layFault 39 = .ok (.getfield 58, 3) := by decide +kernel
theorem dX10_layFault_42 : decode cX10_layFault 42 = .ok (.iconst 0, 1) := by decide +kernel
theorem dX10_layFault_43 : decode cX10_layFault 43 = .ok (.lconst 0, 1) := by decide +kernel
theorem dX10_layFault_44 : decode cX10_layFault 44 = .ok (.lastore, 1) := by decide +kernel
theorem dX10_layFault_45 : decode cX10_layFault 45 = .ok (.aload_n 0, 1) := by decide +kernel
theorem dX10_layFault_46 : decode cX10_layFault 46 = .ok (.getfield 58, 3) := by decide +kernel
theorem dX10_layFault_49 : decode cX10_layFault 49 = .ok (.iconst 1, 1) := by decide +kernel
theorem dX10_layFault_50 : decode cX10_layFault 50 = .ok (.aload_n 0, 1) := by decide +kernel
theorem dX10_layFault_51 : decode cX10_layFault 51 = .ok (.getfield 16, 3) := by decide +kernel
theorem dX10_layFault_54 : decode cX10_layFault 54 = .ok (.i2l, 1) := by decide +kernel
theorem dX10_layFault_55 : decode cX10_layFault 55 = .ok (.lastore, 1) := by decide +kernel
theorem dX10_layFault_56 : decode cX10_layFault 56 = .ok (.aload_n 0, 1) := by decide +kernel
theorem dX10_layFault_57 : decode cX10_layFault 57 = .ok (.getfield 58, 3) := by decide +kernel
theorem dX10_layFault_60 : decode cX10_layFault 60 = .ok (.iconst 2, 1) := by decide +kernel
theorem dX10_layFault_61 : decode cX10_layFault 61 = .ok (.lconst 0, 1) := by decide +kernel
theorem dX10_layFault_62 : decode cX10_layFault 62 = .ok (.lastore, 1) := by decide +kernel
theorem dX10_layFault_63 : decode cX10_layFault 63 = .ok (.iload_n 1, 1) := by decide +kernel
theorem dX10_layFault_64 : decode cX10_layFault 64 = .ok (.tableswitch 163 0 2 #[28, 65, 92], 28) := by decide +kernel
theorem dX10_layFault_92 : decode cX10_layFault 92 = .ok (.aload_n 0, 1) := by decide +kernel
theorem dX10_layFault_93 : decode cX10_layFault 93 = .ok (.lload 6, 2) := by decide +kernel
theorem dX10_layFault_95 : decode cX10_layFault 95 = .ok (.lload 8, 2) := by decide +kernel
theorem dX10_layFault_97 : decode cX10_layFault 97 = .ok (.ladd, 1) := by decide +kernel
theorem dX10_layFault_98 : decode cX10_layFault 98 = .ok (.lload 10, 2) := by decide +kernel
theorem dX10_layFault_100 : decode cX10_layFault 100 = .ok (.ladd, 1) := by decide +kernel
theorem dX10_layFault_101 : decode cX10_layFault 101 = .ok (.putfield 243, 3) := by decide +kernel
theorem dX10_layFault_104 : decode cX10_layFault 104 = .ok (.aload_n 0, 1) := by decide +kernel
theorem dX10_layFault_105 : decode cX10_layFault 105 = .ok (.getfield 58, 3) := by decide +kernel
theorem dX10_layFault_108 : decode cX10_layFault 108 = .ok (.iconst 0, 1) := by decide +kernel
theorem dX10_layFault_109 : decode cX10_layFault 109 = .ok (.aload_n 0, 1) := by decide +kernel
theorem dX10_layFault_110 : decode cX10_layFault 110 = .ok (.getfield 16, 3) := by decide +kernel
theorem dX10_layFault_113 : decode cX10_layFault 113 = .ok (.i2l, 1) := by decide +kernel
theorem dX10_layFault_114 : decode cX10_layFault 114 = .ok (.lastore, 1) := by decide +kernel
theorem dX10_layFault_115 : decode cX10_layFault 115 = .ok (.aload_n 0, 1) := by decide +kernel
theorem dX10_layFault_116 : decode cX10_layFault 116 = .ok (.getfield 58, 3) := by decide +kernel
theorem dX10_layFault_119 : decode cX10_layFault 119 = .ok (.iconst 2, 1) := by decide +kernel
theorem dX10_layFault_120 : decode cX10_layFault 120 = .ok (.aload_n 0, 1) := by decide +kernel
theorem dX10_layFault_121 : decode cX10_layFault 121 = .ok (.getfield 16, 3) := by decide +kernel
theorem dX10_layFault_124 : decode cX10_layFault 124 = .ok (.i2l, 1) := by decide +kernel
theorem dX10_layFault_125 : decode cX10_layFault 125 = .ok (.lastore, 1) := by decide +kernel
theorem dX10_layFault_126 : decode cX10_layFault 126 = .ok (.goto 110, 3) := by decide +kernel
theorem dX10_layFault_129 : decode cX10_layFault 129 = .ok (.aload_n 0, 1) := by decide +kernel
theorem dX10_layFault_130 : decode cX10_layFault 130 = .ok (.lload 6, 2) := by decide +kernel
theorem dX10_layFault_132 : decode cX10_layFault 132 = .ok (.lload 8, 2) := by decide +kernel
theorem dX10_layFault_134 : decode cX10_layFault 134 = .ok (.ladd, 1) := by decide +kernel
theorem dX10_layFault_135 : decode cX10_layFault 135 = .ok (.iload_n 3, 1) := by decide +kernel
theorem dX10_layFault_136 : decode cX10_layFault 136 = .ok (.i2l, 1) := by decide +kernel
theorem dX10_layFault_137 : decode cX10_layFault 137 = .ok (.ladd, 1) := by decide +kernel
theorem dX10_layFault_138 : decode cX10_layFault 138 = .ok (.putfield 243, 3) := by decide +kernel
theorem dX10_layFault_141 : decode cX10_layFault 141 = .ok (.aload_n 0, 1) := by decide +kernel
theorem dX10_layFault_142 : decode cX10_layFault 142 = .ok (.getfield 58, 3) := by decide +kernel
theorem dX10_layFault_145 : decode cX10_layFault 145 = .ok (.iconst 2, 1) := by decide +kernel
theorem dX10_layFault_146 : decode cX10_layFault 146 = .ok (.aload_n 0, 1) := by decide +kernel
theorem dX10_layFault_147 : decode cX10_layFault 147 = .ok (.getfield 16, 3) := by decide +kernel
theorem dX10_layFault_150 : decode cX10_layFault 150 = .ok (.ineg, 1) := by decide +kernel
theorem dX10_layFault_151 : decode cX10_layFault 151 = .ok (.i2l, 1) := by decide +kernel
theorem dX10_layFault_152 : decode cX10_layFault 152 = .ok (.lastore, 1) := by decide +kernel
theorem dX10_layFault_153 : decode cX10_layFault 153 = .ok (.goto 83, 3) := by decide +kernel
theorem dX10_layFault_156 : decode cX10_layFault 156 = .ok (.aload_n 0, 1) := by decide +kernel
theorem dX10_layFault_157 : decode cX10_layFault 157 = .ok (.lload 6, 2) := by decide +kernel
theorem dX10_layFault_159 : decode cX10_layFault 159 = .ok (.lload 8, 2) := by decide +kernel
theorem dX10_layFault_161 : decode cX10_layFault 161 = .ok (.lmul, 1) := by decide +kernel
theorem dX10_layFault_162 : decode cX10_layFault 162 = .ok (.lload 6, 2) := by decide +kernel
theorem dX10_layFault_164 : decode cX10_layFault 164 = .ok (.lload 10, 2) := by decide +kernel
theorem dX10_layFault_166 : decode cX10_layFault 166 = .ok (.lmul, 1) := by decide +kernel
theorem dX10_layFault_167 : decode cX10_layFault 167 = .ok (.ladd, 1) := by decide +kernel
theorem dX10_layFault_168 : decode cX10_layFault 168 = .ok (.lload 8, 2) := by decide +kernel
theorem dX10_layFault_170 : decode cX10_layFault 170 = .ok (.lload 10, 2) := by decide +kernel
theorem dX10_layFault_172 : decode cX10_layFault 172 = .ok (.lmul, 1) := by decide +kernel
theorem dX10_layFault_173 : decode cX10_layFault 173 = .ok (.ladd, 1) := by decide +kernel
theorem dX10_layFault_174 : decode cX10_layFault 174 = .ok (.putfield 243, 3) := by decide +kernel
theorem dX10_layFault_177 : decode cX10_layFault 177 = .ok (.aload_n 0, 1) := by decide +kernel
theorem dX10_layFault_178 : decode cX10_layFault 178 = .ok (.getfield 58, 3) := by decide +kernel
theorem dX10_layFault_181 : decode cX10_layFault 181 = .ok (.iconst 0, 1) := by decide +kernel
theorem dX10_layFault_182 : decode cX10_layFault 182 = .ok (.aload_n 0, 1) := by decide +kernel
theorem dX10_layFault_183 : decode cX10_layFault 183 = .ok (.getfield 16, 3) := by decide +kernel
theorem dX10_layFault_186 : decode cX10_layFault 186 = .ok (.ineg, 1) := by decide +kernel
theorem dX10_layFault_187 : decode cX10_layFault 187 = .ok (.i2l, 1) := by decide +kernel
theorem dX10_layFault_188 : decode cX10_layFault 188 = .ok (.lload 8, 2) := by decide +kernel
theorem dX10_layFault_190 : decode cX10_layFault 190 = .ok (.lmul, 1) := by decide +kernel
theorem dX10_layFault_191 : decode cX10_layFault 191 = .ok (.lastore, 1) := by decide +kernel
theorem dX10_layFault_192 : decode cX10_layFault 192 = .ok (.aload_n 0, 1) := by decide +kernel
theorem dX10_layFault_193 : decode cX10_layFault 193 = .ok (.getfield 58, 3) := by decide +kernel
theorem dX10_layFault_196 : decode cX10_layFault 196 = .ok (.iconst 1, 1) := by decide +kernel
theorem dX10_layFault_197 : decode cX10_layFault 197 = .ok (.aload_n 0, 1) := by decide +kernel
theorem dX10_layFault_198 : decode cX10_layFault 198 = .ok (.getfield 16, 3) := by decide +kernel
theorem dX10_layFault_201 : decode cX10_layFault 201 = .ok (.i2l, 1) := by decide +kernel
theorem dX10_layFault_202 : decode cX10_layFault 202 = .ok (.lload 8, 2) := by decide +kernel
theorem dX10_layFault_204 : decode cX10_layFault 204 = .ok (.lload 10, 2) := by decide +kernel
theorem dX10_layFault_206 : decode cX10_layFault 206 = .ok (.ladd, 1) := by decide +kernel
theorem dX10_layFault_207 : decode cX10_layFault 207 = .ok (.lmul, 1) := by decide +kernel
theorem dX10_layFault_208 : decode cX10_layFault 208 = .ok (.lastore, 1) := by decide +kernel
theorem dX10_layFault_209 : decode cX10_layFault 209 = .ok (.aload_n 0, 1) := by decide +kernel
theorem dX10_layFault_210 : decode cX10_layFault 210 = .ok (.getfield 58, 3) := by decide +kernel
theorem dX10_layFault_213 : decode cX10_layFault 213 = .ok (.iconst 2, 1) := by decide +kernel
theorem dX10_layFault_214 : decode cX10_layFault 214 = .ok (.aload_n 0, 1) := by decide +kernel
theorem dX10_layFault_215 : decode cX10_layFault 215 = .ok (.getfield 16, 3) := by decide +kernel
theorem dX10_layFault_218 : decode cX10_layFault 218 = .ok (.ineg, 1) := by decide +kernel
theorem dX10_layFault_219 : decode cX10_layFault 219 = .ok (.i2l, 1) := by decide +kernel
theorem dX10_layFault_220 : decode cX10_layFault 220 = .ok (.lload 10, 2) := by decide +kernel
theorem dX10_layFault_222 : decode cX10_layFault 222 = .ok (.lmul, 1) := by decide +kernel
theorem dX10_layFault_223 : decode cX10_layFault 223 = .ok (.lastore, 1) := by decide +kernel
theorem dX10_layFault_224 : decode cX10_layFault 224 = .ok (.goto 12, 3) := by decide +kernel
theorem dX10_layFault_227 : decode cX10_layFault 227 = .ok (.aload_n 0, 1) := by decide +kernel
theorem dX10_layFault_228 : decode cX10_layFault 228 = .ok (.lload 6, 2) := by decide +kernel
theorem dX10_layFault_230 : decode cX10_layFault 230 = .ok (.iload_n 3, 1) := by decide +kernel
theorem dX10_layFault_231 : decode cX10_layFault 231 = .ok (.i2l, 1) := by decide +kernel
theorem dX10_layFault_232 : decode cX10_layFault 232 = .ok (.ladd, 1) := by decide +kernel
theorem dX10_layFault_233 : decode cX10_layFault 233 = .ok (.putfield 243, 3) := by decide +kernel
theorem dX10_layFault_236 : decode cX10_layFault 236 = .ok (.return_, 1) := by decide +kernel
theorem dX10_common_0 : decode cX10_common 0 = .ok (.iload_n 1, 1) := by decide +kernel
theorem dX10_common_1 : decode cX10_common 1 = .ok (.istore_n 3, 1) := by decide +kernel
theorem dX10_common_2 : decode cX10_common 2 = .ok (.iload_n 2, 1) := by decide +kernel
theorem dX10_common_3 : decode cX10_common 3 = .ok (.istore 4, 2) := by decide +kernel
theorem dX10_common_5 : decode cX10_common 5 = .ok (.iload_n 3, 1) := by decide +kernel
theorem dX10_common_6 : decode cX10_common 6 = .ok (.iload 4, 2) := by decide +kernel
theorem dX10_common_8 : decode cX10_common 8 = .ok (.if_icmp .eq 54, 3) := by decide +kernel
theorem dX10_common_11 : decode cX10_common 11 = .ok (.iload_n 3, 1) := by decide +kernel
theorem dX10_common_12 : decode cX10_common 12 = .ok (.iload 4, 2) := by decide +kernel
theorem dX10_common_14 : decode cX10_common 14 = .ok (.if_icmp .le 7, 3) := by decide +kernel
theorem dX10_common_17 : decode cX10_common 17 = .ok (.iconst 1, 1) := by decide +kernel
theorem dX10_common_18 : decode cX10_common 18 = .ok (.goto 4, 3) := by decide +kernel
theorem dX10_common_21 : decode cX10_common 21 = .ok (.iconst 0, 1) := by decide +kernel
theorem dX10_common_22 : decode cX10_common 22 = .ok (.istore 5, 2) := by decide +kernel
theorem dX10_common_24 : decode cX10_common 24 = .ok (.iload 5, 2) := by decide +kernel
theorem dX10_common_26 : decode cX10_common 26 = .ok (.ifCond .eq 12, 3) := by decide +kernel
theorem dX10_common_29 : decode cX10_common 29 = .ok (.aload_n 0, 1) := by decide +kernel
theorem dX10_common_30 : decode cX10_common 30 = .ok (.getfield 23, 3) := by decide +kernel
theorem dX10_common_33 : decode cX10_common 33 = .ok (.iload_n 3, 1) := by decide +kernel
theorem dX10_common_34 : decode cX10_common 34 = .ok (.iaload, 1) := by decide +kernel
theorem dX10_common_35 : decode cX10_common 35 = .ok (.goto 4, 3) := by decide +kernel
theorem dX10_common_38 : decode cX10_common 38 = .ok (.iload_n 3, 1) := by decide +kernel
theorem dX10_common_39 : decode cX10_common 39 = .ok (.istore_n 3, 1) := by decide +kernel
theorem dX10_common_40 : decode cX10_common 40 = .ok (.iload 5, 2) := by decide +kernel
theorem dX10_common_42 : decode cX10_common 42 = .ok (.ifCond .eq 8, 3) := by decide +kernel
theorem dX10_common_45 : decode cX10_common 45 = .ok (.iload 4, 2) := by decide +kernel
theorem dX10_common_47 : decode cX10_common 47 = .ok (.goto 10, 3) := by decide +kernel
theorem dX10_common_50 : decode cX10_common 50 = .ok (.aload_n 0, 1) := by decide +kernel
theorem dX10_common_51 : decode cX10_common 51 = .ok (.getfield 23, 3) := by decide +kernel
theorem dX10_common_54 : decode cX10_common 54 = .ok (.iload 4, 2) := by decide +kernel
theorem dX10_common_56 : decode cX10_common 56 = .ok (.iaload, 1) := by decide +kernel
theorem dX10_common_57 : decode cX10_common 57 = .ok (.istore 4, 2) := by decide +kernel
theorem dX10_common_59 : decode cX10_common 59 = .ok (.goto (-54), 3) := by decide +kernel
theorem dX10_common_62 : decode cX10_common 62 = .ok (.iload_n 3, 1) := by decide +kernel
theorem dX10_common_63 : decode cX10_common 63 = .ok (.ireturn, 1) := by decide +kernel
set_option maxRecDepth 20000 in
theorem ggX10_layVoltage_X10_common : GoodIn wsX10_layVoltage wsX10_common := goodIn_r _ [8, 9, 15, 16, 17, 18, 19, 20, 21, 22, 23, 24, 25, 26, 27, 28, 29, 30, 31, 32, 33, 34, 35, 36, 37, 38, 39, 40] (by decide +kernel) (by decide +kernel)
set_option maxRecDepth 20000 in
theorem gX10_layVoltage_X10_common : GoodIn wsX10_layVoltage (wsV RX10 247 RX10 yX10_common wsX10_common) := goodIn_app (goodIn_of _ (by decide +kernel)) ggX10_layVoltage_X10_common
set_option maxRecDepth 20000 in
theorem ggX10_layVoltage_X10_upTo : GoodIn wsX10_layVoltage wsX10_upTo := goodIn_r _ [13, 14, 9, 15, 16, 17, 18, 19, 20, 21, 22, 23, 24, 25, 26, 27, 28, 29, 30, 31, 32, 33, 34, 35, 36, 37, 38, 39, 40] (by decide +kernel) (by decide +kernel)
set_option maxRecDepth 20000 in
theorem gX10_layVoltage_X10_upTo : GoodIn wsX10_layVoltage (wsV RX10 146 RX10 yX10_upTo wsX10_upTo) := goodIn_app (goodIn_of _ (by decide +kernel)) ggX10_layVoltage_X10_upTo
theorem dX10_layVoltage_0 : decode cX10_layVoltage 0 = .ok (.aload_n 0, 1) := by decide +kernel
theorem dX10_layVoltage_1 : decode cX10_layVoltage 1 = .ok (.iload_n 1, 1) := by decide +kernel
theorem dX10_layVoltage_2 : decode cX10_layVoltage 2 = .ok (.iload_n 2, 1) := by decide +kernel
theorem dX10_layVoltage_3 : decode cX10_layVoltage 3 = .ok (.invokevirtual 247, 3) := by decide +kernel
theorem dX10_layVoltage_6 : decode cX10_layVoltage 6 = .ok (.istore_n 3, 1) := by decide +kernel
theorem dX10_layVoltage_7 : decode cX10_layVoltage 7 = .ok (.aload_n 0, 1) := by decide +kernel
theorem dX10_layVoltage_8 : decode cX10_layVoltage 8 = .ok (.getfield 58, 3) := by decide +kernel
theorem dX10_layVoltage_11 : decode cX10_layVoltage 11 = .ok (.iconst 0, 1) := by decide +kernel
theorem dX10_layVoltage_12 : decode cX10_layVoltage 12 = .ok (.aload_n 0, 1) := by decide +kernel
theorem dX10_layVoltage_13 : decode cX10_layVoltage 13 = .ok (.iload_n 3, 1) := by decide +kernel
theorem dX10_layVoltage_14 : decode cX10_layVoltage 14 = .ok (.iconst 0, 1) := by decide +kernel
theorem dX10_layVoltage_15 : decode cX10_layVoltage 15 = .ok (.invokevirtual 146, 3) := by decide +kernel
theorem dX10_layVoltage_18 : decode cX10_layVoltage 18 = .ok (.ineg, 1) := by decide +kernel
theorem dX10_layVoltage_19 : decode cX10_layVoltage 19 = .ok (.i2l, 1) := by decide +kernel
theorem dX10_layVoltage_20 : decode cX10_layVoltage 20 = .ok (.aload_n 0, 1) := by decide +kernel
theorem dX10_layVoltage_21 : decode cX10_layVoltage 21 = .ok (.getfield 58, 3) := by decide +kernel
theorem dX10_layVoltage_24 : decode cX10_layVoltage 24 = .ok (.iconst 0, 1) := by decide +kernel
theorem dX10_layVoltage_25 : decode cX10_layVoltage 25 = .ok (.laload, 1) := by decide +kernel
theorem dX10_layVoltage_26 : decode cX10_layVoltage 26 = .ok (.lmul, 1) := by decide +kernel
theorem dX10_layVoltage_27 : decode cX10_layVoltage 27 = .ok (.lastore, 1) := by decide +kernel
theorem dX10_layVoltage_28 : decode cX10_layVoltage 28 = .ok (.aload_n 0, 1) := by decide +kernel
theorem dX10_layVoltage_29 : decode cX10_layVoltage 29 = .ok (.getfield 58, 3) := by decide +kernel
theorem dX10_layVoltage_32 : decode cX10_layVoltage 32 = .ok (.iconst 1, 1) := by decide +kernel
theorem dX10_layVoltage_33 : decode cX10_layVoltage 33 = .ok (.aload_n 0, 1) := by decide +kernel
theorem dX10_layVoltage_34 : decode cX10_layVoltage 34 = .ok (.getfield 16, 3) := by decide +kernel
theorem dX10_layVoltage_37 : decode cX10_layVoltage 37 = .ok (.i2l, 1) := by decide +kernel
theorem dX10_layVoltage_38 : decode cX10_layVoltage 38 = .ok (.aload_n 0, 1) := by decide +kernel
theorem dX10_layVoltage_39 : decode cX10_layVoltage 39 = .ok (.getfield 243, 3) := by decide +kernel
theorem dX10_layVoltage_42 : decode cX10_layVoltage 42 = .ok (.lmul, 1) := by decide +kernel
theorem dX10_layVoltage_43 : decode cX10_layVoltage 43 = .ok (.aload_n 0, 1) := by decide +kernel
theorem dX10_layVoltage_44 : decode cX10_layVoltage 44 = .ok (.iload_n 3, 1) := by decide +kernel
theorem dX10_layVoltage_45 : decode cX10_layVoltage 45 = .ok (.iconst 1, 1) := by decide +kernel
theorem dX10_layVoltage_46 : decode cX10_layVoltage 46 = .ok (.invokevirtual 146, 3) := by decide +kernel
theorem dX10_layVoltage_49 : decode cX10_layVoltage 49 = .ok (.i2l, 1) := by decide +kernel
theorem dX10_layVoltage_50 : decode cX10_layVoltage 50 = .ok (.aload_n 0, 1) := by decide +kernel
theorem dX10_layVoltage_51 : decode cX10_layVoltage 51 = .ok (.getfield 58, 3) := by decide +kernel
theorem dX10_layVoltage_54 : decode cX10_layVoltage 54 = .ok (.iconst 1, 1) := by decide +kernel
theorem dX10_layVoltage_55 : decode cX10_layVoltage 55 = .ok (.laload, 1) := by decide +kernel
theorem dX10_layVoltage_56 : decode cX10_layVoltage 56 = .ok (.lmul, 1) := by decide +kernel
theorem dX10_layVoltage_57 : decode cX10_layVoltage 57 = .ok (.lsub, 1) := by decide +kernel
theorem dX10_layVoltage_58 : decode cX10_layVoltage 58 = .ok (.lastore, 1) := by decide +kernel
theorem dX10_layVoltage_59 : decode cX10_layVoltage 59 = .ok (.aload_n 0, 1) := by decide +kernel
theorem dX10_layVoltage_60 : decode cX10_layVoltage 60 = .ok (.getfield 58, 3) := by decide +kernel
theorem dX10_layVoltage_63 : decode cX10_layVoltage 63 = .ok (.iconst 2, 1) := by decide +kernel
theorem dX10_layVoltage_64 : decode cX10_layVoltage 64 = .ok (.aload_n 0, 1) := by decide +kernel
theorem dX10_layVoltage_65 : decode cX10_layVoltage 65 = .ok (.iload_n 3, 1) := by decide +kernel
theorem dX10_layVoltage_66 : decode cX10_layVoltage 66 = .ok (.iconst 2, 1) := by decide +kernel
theorem dX10_layVoltage_67 : decode cX10_layVoltage 67 = .ok (.invokevirtual 146, 3) := by decide +kernel
