theorem dX5_combineAll_25 : decode cX5_combineAll 25 = .ok (.aaload, 1) := by decide +kernel
theorem dX5_combineAll_26 : decode cX5_combineAll 26 = .ok (.invokevirtual 40, 3) := by decide +kernel
theorem dX5_combineAll_29 : decode cX5_combineAll 29 = .ok (.aload_n 0, 1) := by decide +kernel
theorem dX5_combineAll_30 : decode cX5_combineAll 30 = .ok (.aload 5, 2) := by decide +kernel
theorem dX5_combineAll_32 : decode cX5_combineAll 32 = .ok (.aload_n 1, 1) := by decide +kernel
theorem dX5_combineAll_33 : decode cX5_combineAll 33 = .ok (.getfield 34, 3) := by decide +kernel
theorem dX5_combineAll_36 : decode cX5_combineAll 36 = .ok (.iconst 1, 1) := by decide +kernel
theorem dX5_combineAll_37 : decode cX5_combineAll 37 = .ok (.aaload, 1) := by decide +kernel
theorem dX5_combineAll_38 : decode cX5_combineAll 38 = .ok (.aload_n 2, 1) := by decide +kernel
theorem dX5_combineAll_39 : decode cX5_combineAll 39 = .ok (.iconst 2, 1) := by decide +kernel
theorem dX5_combineAll_40 : decode cX5_combineAll 40 = .ok (.iload 4, 2) := by decide +kernel
theorem dX5_combineAll_42 : decode cX5_combineAll 42 = .ok (.imul, 1) := by decide +kernel
theorem dX5_combineAll_43 : decode cX5_combineAll 43 = .ok (.iaload, 1) := by decide +kernel
theorem dX5_combineAll_44 : decode cX5_combineAll 44 = .ok (.invokevirtual 44, 3) := by decide +kernel
theorem dX5_combineAll_47 : decode cX5_combineAll 47 = .ok (.aload_n 0, 1) := by decide +kernel
theorem dX5_combineAll_48 : decode cX5_combineAll 48 = .ok (.aload 5, 2) := by decide +kernel
theorem dX5_combineAll_50 : decode cX5_combineAll 50 = .ok (.aload_n 1, 1) := by decide +kernel
theorem dX5_combineAll_51 : decode cX5_combineAll 51 = .ok (.getfield 34, 3) := by decide +kernel
theorem dX5_combineAll_54 : decode cX5_combineAll 54 = .ok (.iconst 2, 1) := by decide +kernel
theorem dX5_combineAll_55 : decode cX5_combineAll 55 = .ok (.aaload, 1) := by decide +kernel
theorem dX5_combineAll_56 : decode cX5_combineAll 56 = .ok (.aload_n 2, 1) := by decide +kernel
theorem dX5_combineAll_57 : decode cX5_combineAll 57 = .ok (.iconst 2, 1) := by decide +kernel
theorem dX5_combineAll_58 : decode cX5_combineAll 58 = .ok (.iload 4, 2) := by decide +kernel
theorem dX5_combineAll_60 : decode cX5_combineAll 60 = .ok (.imul, 1) := by decide +kernel
theorem dX5_combineAll_61 : decode cX5_combineAll 61 = .ok (.iconst 1, 1) := by decide +kernel
theorem dX5_combineAll_62 : decode cX5_combineAll 62 = .ok (.iadd, 1) := by decide +kernel
theorem dX5_combineAll_63 : decode cX5_combineAll 63 = .ok (.iaload, 1) := by decide +kernel
theorem dX5_combineAll_64 : decode cX5_combineAll 64 = .ok (.invokevirtual 44, 3) := by decide +kernel
theorem dX5_combineAll_67 : decode cX5_combineAll 67 = .ok (.iinc 4 1, 3) := by decide +kernel
theorem dX5_combineAll_70 : decode cX5_combineAll 70 = .ok (.goto (-67), 3) := by decide +kernel
theorem dX5_combineAll_73 : decode cX5_combineAll 73 = .ok (.return_, 1) := by decide +kernel
set_option maxRecDepth 20000 in
theorem ggX5_addTurned_X4_become : GoodIn wsX5_addTurned wsX4_become := goodIn_r _ [6, 7, 8, 9, 10, 11, 12, 13, 14, 15, 16, 51, 52, 53, 54, 55] (by decide +kernel) (by decide +kernel)
set_option maxRecDepth 20000 in
theorem gX5_addTurned_X4_become : GoodIn wsX5_addTurned (wsV RX5 40 RX4 yX4_become wsX4_become) := goodIn_app (goodIn_of _ (by decide +kernel)) ggX5_addTurned_X4_become
set_option maxRecDepth 20000 in
theorem ggX5_addTurned_X4_rotateOnce : GoodIn wsX5_addTurned wsX4_rotateOnce := goodIn_r _ [20, 7, 8, 21, 22, 23, 12, 24, 15, 16, 14, 25, 26, 27, 28, 29, 30, 31, 32, 33, 34, 35, 36, 37, 38, 39, 40, 41, 51, 52, 53, 54, 55] (by decide +kernel) (by decide +kernel)
set_option maxRecDepth 20000 in
theorem gX5_addTurned_X4_rotateOnce : GoodIn wsX5_addTurned (wsV RX5 48 RX4 yX4_rotateOnce wsX4_rotateOnce) := goodIn_app (goodIn_of _ (by decide +kernel)) ggX5_addTurned_X4_rotateOnce
set_option maxRecDepth 20000 in
theorem ggX5_addTurned_X4_add : GoodIn wsX5_addTurned wsX4_add := goodIn_r _ [45, 7, 8, 21, 22, 23, 12, 24, 15, 16, 14, 25, 26, 27, 28, 29, 30, 31, 32, 33, 34, 35, 36, 37, 51, 52, 53, 54, 55] (by decide +kernel) (by decide +kernel)
set_option maxRecDepth 20000 in
theorem gX5_addTurned_X4_add : GoodIn wsX5_addTurned (wsV RX5 51 RX4 yX4_add wsX4_add) := goodIn_app (goodIn_of _ (by decide +kernel)) ggX5_addTurned_X4_add
theorem dX5_addTurned_0 : decode cX5_addTurned 0 = .ok (.aload_n 0, 1) := by decide +kernel
theorem dX5_addTurned_1 : decode cX5_addTurned 1 = .ok (.getfield 18, 3) := by decide +kernel
theorem dX5_addTurned_4 : decode cX5_addTurned 4 = .ok (.aload_n 2, 1) := by decide +kernel
theorem dX5_addTurned_5 : decode cX5_addTurned 5 = .ok (.invokevirtual 40, 3) := by decide +kernel
theorem dX5_addTurned_8 : decode cX5_addTurned 8 = .ok (.iconst 0, 1) := by decide +kernel
theorem dX5_addTurned_9 : decode cX5_addTurned 9 = .ok (.istore 4, 2) := by decide +kernel
theorem dX5_addTurned_11 : decode cX5_addTurned 11 = .ok (.iload 4, 2) := by decide +kernel
theorem dX5_addTurned_13 : decode cX5_addTurned 13 = .ok (.iload_n 3, 1) := by decide +kernel
theorem dX5_addTurned_14 : decode cX5_addTurned 14 = .ok (.if_icmp .ge 16, 3) := by decide +kernel
theorem dX5_addTurned_17 : decode cX5_addTurned 17 = .ok (.aload_n 0, 1) := by decide +kernel
theorem dX5_addTurned_18 : decode cX5_addTurned 18 = .ok (.getfield 18, 3) := by decide +kernel
theorem dX5_addTurned_21 : decode cX5_addTurned 21 = .ok (.invokevirtual 48, 3) := by decide +kernel
theorem dX5_addTurned_24 : decode cX5_addTurned 24 = .ok (.iinc 4 1, 3) := by decide +kernel
theorem dX5_addTurned_27 : decode cX5_addTurned 27 = .ok (.goto (-16), 3) := by decide +kernel
theorem dX5_addTurned_30 : decode cX5_addTurned 30 = .ok (.aload_n 1, 1) := by decide +kernel
theorem dX5_addTurned_31 : decode cX5_addTurned 31 = .ok (.aload_n 0, 1) := by decide +kernel
theorem dX5_addTurned_32 : decode cX5_addTurned 32 = .ok (.getfield 18, 3) := by decide +kernel
theorem dX5_addTurned_35 : decode cX5_addTurned 35 = .ok (.iconst 1, 1) := by decide +kernel
theorem dX5_addTurned_36 : decode cX5_addTurned 36 = .ok (.invokevirtual 51, 3) := by decide +kernel
theorem dX5_addTurned_39 : decode cX5_addTurned 39 = .ok (.return_, 1) := by decide +kernel
set_option maxRecDepth 20000 in
theorem ggX5_normOf_X5_reckonNorm : GoodIn wsX5_normOf wsX5_reckonNorm := goodIn_r _ [6, 7, 8, 9, 10, 11, 12, 13, 14, 15, 16, 17, 18, 19, 20, 21, 22, 23, 24, 25, 26, 27, 28, 29, 30, 31, 32, 33, 34, 35, 36, 37, 38, 44, 45, 39, 40, 41, 42, 43, 46, 47, 48] (by decide +kernel) (by decide +kernel)
set_option maxRecDepth 20000 in
theorem gX5_normOf_X5_reckonNorm : GoodIn wsX5_normOf (wsV RX5 55 RX5 yX5_reckonNorm wsX5_reckonNorm) := goodIn_app (goodIn_of _ (by decide +kernel)) ggX5_normOf_X5_reckonNorm
theorem dX5_normOf_0 : decode cX5_normOf 0 = .ok (.aload_n 0, 1) := by decide +kernel
theorem dX5_normOf_1 : decode cX5_normOf 1 = .ok (.aload_n 1, 1) := by decide +kernel
theorem dX5_normOf_2 : decode cX5_normOf 2 = .ok (.aload_n 0, 1) := by decide +kernel
theorem dX5_normOf_3 : decode cX5_normOf 3 = .ok (.getfield 28, 3) := by decide +kernel
theorem dX5_normOf_6 : decode cX5_normOf 6 = .ok (.invokevirtual 55, 3) := by decide +kernel
theorem dX5_normOf_9 : decode cX5_normOf 9 = .ok (.aload_n 0, 1) := by decide +kernel
theorem dX5_normOf_10 : decode cX5_normOf 10 = .ok (.getfield 28, 3) := by decide +kernel
theorem dX5_normOf_13 : decode cX5_normOf 13 = .ok (.areturn, 1) := by decide +kernel
set_option maxRecDepth 20000 in
theorem ggX5_reckonNorm_X1_become : GoodIn wsX5_reckonNorm wsX1_become := goodIn_r _ [8, 9, 10, 11, 40, 41, 42] (by decide +kernel) (by decide +kernel)
set_option maxRecDepth 20000 in
theorem gX5_reckonNorm_X1_become : GoodIn wsX5_reckonNorm (wsV RX5 62 RX1 yX1_become wsX1_become) := goodIn_app (goodIn_of _ (by decide +kernel)) ggX5_reckonNorm_X1_become
set_option maxRecDepth 20000 in
theorem ggX5_reckonNorm_X1_multiply : GoodIn wsX5_reckonNorm wsX1_multiply := goodIn_r _ [15, 11, 9, 10, 16, 17, 18, 7, 19, 20, 21, 22, 23, 24, 25, 26, 27, 28, 40, 41, 42] (by decide +kernel) (by decide +kernel)
set_option maxRecDepth 20000 in
theorem gX5_reckonNorm_X1_multiply : GoodIn wsX5_reckonNorm (wsV RX5 65 RX1 yX1_multiply wsX1_multiply) := goodIn_app (goodIn_of _ (by decide +kernel)) ggX5_reckonNorm_X1_multiply
set_option maxRecDepth 20000 in
theorem ggX5_reckonNorm_X1_add : GoodIn wsX5_reckonNorm wsX1_add := goodIn_r _ [32, 10, 11, 9, 26, 27, 7, 28, 16, 17, 18, 19, 20, 21, 22, 23, 24, 25, 40, 41, 42] (by decide +kernel) (by decide +kernel)
set_option maxRecDepth 20000 in
theorem gX5_reckonNorm_X1_add : GoodIn wsX5_reckonNorm (wsV RX5 71 RX1 yX1_add wsX1_add) := goodIn_app (goodIn_of _ (by decide +kernel)) ggX5_reckonNorm_X1_add
theorem dX5_reckonNorm_0 : decode cX5_reckonNorm 0 = .ok (.aload_n 2, 1) := by decide +kernel
theorem dX5_reckonNorm_1 : decode cX5_reckonNorm 1 = .ok (.aload_n 1, 1) := by decide +kernel
theorem dX5_reckonNorm_2 : decode cX5_reckonNorm 2 = .ok (.getfield 59, 3) := by decide +kernel
theorem dX5_reckonNorm_5 : decode cX5_reckonNorm 5 = .ok (.invokevirtual 62, 3) := by decide +kernel
theorem dX5_reckonNorm_8 : decode cX5_reckonNorm 8 = .ok (.aload_n 2, 1) := by decide +kernel
theorem dX5_reckonNorm_9 : decode cX5_reckonNorm 9 = .ok (.aload_n 1, 1) := by decide +kernel
theorem dX5_reckonNorm_10 : decode cX5_reckonNorm 10 = .ok (.getfield 59, 3) := by decide +kernel
theorem dX5_reckonNorm_13 : decode cX5_reckonNorm 13 = .ok (.invokevirtual 65, 3) := by decide +kernel
theorem dX5_reckonNorm_16 : decode cX5_reckonNorm 16 = .ok (.aload_n 0, 1) := by decide +kernel
theorem dX5_reckonNorm_17 : decode cX5_reckonNorm 17 = .ok (.getfield 24, 3) := by decide +kernel
theorem dX5_reckonNorm_20 : decode cX5_reckonNorm 20 = .ok (.aload_n 1, 1) := by decide +kernel
theorem dX5_reckonNorm_21 : decode cX5_reckonNorm 21 = .ok (.getfield 59, 3) := by decide +kernel
theorem dX5_reckonNorm_24 : decode cX5_reckonNorm 24 = .ok (.invokevirtual 62, 3) := by decide +kernel
theorem dX5_reckonNorm_27 : decode cX5_reckonNorm 27 = .ok (.aload_n 0, 1) := by decide +kernel
theorem dX5_reckonNorm_28 : decode cX5_reckonNorm 28 = .ok (.getfield 24, 3) := by decide +kernel
theorem dX5_reckonNorm_31 : decode cX5_reckonNorm 31 = .ok (.aload_n 1, 1) := by decide +kernel
theorem dX5_reckonNorm_32 : decode cX5_reckonNorm 32 = .ok (.getfield 68, 3) := by decide +kernel
theorem dX5_reckonNorm_35 : decode cX5_reckonNorm 35 = .ok (.invokevirtual 65, 3) := by decide +kernel
theorem dX5_reckonNorm_38 : decode cX5_reckonNorm 38 = .ok (.aload_n 2, 1) := by decide +kernel
theorem dX5_reckonNorm_39 : decode cX5_reckonNorm 39 = .ok (.aload_n 0, 1) := by decide +kernel
theorem dX5_reckonNorm_40 : decode cX5_reckonNorm 40 = .ok (.getfield 24, 3) := by decide +kernel
theorem dX5_reckonNorm_43 : decode cX5_reckonNorm 43 = .ok (.iconst (-1), 1) := by decide +kernel
theorem dX5_reckonNorm_44 : decode cX5_reckonNorm 44 = .ok (.invokevirtual 71, 3) := by decide +kernel
theorem dX5_reckonNorm_47 : decode cX5_reckonNorm 47 = .ok (.aload_n 0, 1) := by decide +kernel
theorem dX5_reckonNorm_48 : decode cX5_reckonNorm 48 = .ok (.getfield 24, 3) := by decide +kernel
theorem dX5_reckonNorm_51 : decode cX5_reckonNorm 51 = .ok (.aload_n 1, 1) := by decide +kernel
theorem dX5_reckonNorm_52 : decode cX5_reckonNorm 52 = .ok (.getfield 68, 3) := by decide +kernel
theorem dX5_reckonNorm_55 : decode cX5_reckonNorm 55 = .ok (.invokevirtual 62, 3) := by decide +kernel
theorem dX5_reckonNorm_58 : decode cX5_reckonNorm 58 = .ok (.aload_n 0, 1) := by decide +kernel
theorem dX5_reckonNorm_59 : decode cX5_reckonNorm 59 = .ok (.getfield 24, 3) := by decide +kernel
theorem dX5_reckonNorm_62 : decode cX5_reckonNorm 62 = .ok (.aload_n 1, 1) := by decide +kernel
theorem dX5_reckonNorm_63 : decode cX5_reckonNorm 63 = .ok (.getfield 68, 3) := by decide +kernel
theorem dX5_reckonNorm_66 : decode cX5_reckonNorm 66 = .ok (.invokevirtual 65, 3) := by decide +kernel
theorem dX5_reckonNorm_69 : decode cX5_reckonNorm 69 = .ok (.aload_n 2, 1) := by decide +kernel
theorem dX5_reckonNorm_70 : decode cX5_reckonNorm 70 = .ok (.aload_n 0, 1) := by decide +kernel
theorem dX5_reckonNorm_71 : decode cX5_reckonNorm 71 = .ok (.getfield 24, 3) := by decide +kernel
theorem dX5_reckonNorm_74 : decode cX5_reckonNorm 74 = .ok (.iconst 1, 1) := by decide +kernel
theorem dX5_reckonNorm_75 : decode cX5_reckonNorm 75 = .ok (.invokevirtual 71, 3) := by decide +kernel
theorem dX5_reckonNorm_78 : decode cX5_reckonNorm 78 = .ok (.return_, 1) := by decide +kernel
set_option maxRecDepth 20000 in
theorem ggX5_foldOf_X4_clear : GoodIn wsX5_foldOf wsX4_clear := goodIn_r _ [7, 8, 9, 10, 11, 12, 13, 14, 15, 16, 17, 18, 19, 20, 21, 22, 23, 24, 25, 26, 84, 85, 86, 87, 88] (by decide +kernel) (by decide +kernel)
set_option maxRecDepth 20000 in
theorem gX5_foldOf_X4_clear : GoodIn wsX5_foldOf (wsV RX5 74 RX4 yX4_clear wsX4_clear) := goodIn_app (goodIn_of _ (by decide +kernel)) ggX5_foldOf_X4_clear
set_option maxRecDepth 20000 in
theorem ggX5_foldOf_X4_add : GoodIn wsX5_foldOf wsX4_add := goodIn_r _ [30, 8, 9, 31, 32, 33, 13, 34, 16, 17, 15, 20, 21, 22, 23, 24, 25, 26, 35, 11, 12, 14, 18, 19, 84, 85, 86, 87, 88] (by decide +kernel) (by decide +kernel)
set_option maxRecDepth 20000 in
theorem gX5_foldOf_X4_add : GoodIn wsX5_foldOf (wsV RX5 51 RX4 yX4_add wsX4_add) := goodIn_app (goodIn_of _ (by decide +kernel)) ggX5_foldOf_X4_add
set_option maxRecDepth 20000 in
theorem ggX5_foldOf_X4_rotateOnce : GoodIn wsX5_foldOf wsX4_rotateOnce := goodIn_r _ [39, 8, 9, 31, 32, 33, 13, 34, 16, 17, 15, 20, 21, 22, 23, 24, 25, 26, 35, 11, 12, 14, 18, 19, 40, 41, 42, 43, 84, 85, 86, 87, 88] (by decide +kernel) (by decide +kernel)
set_option maxRecDepth 20000 in
theorem gX5_foldOf_X4_rotateOnce : GoodIn wsX5_foldOf (wsV RX5 48 RX4 yX4_rotateOnce wsX4_rotateOnce) := goodIn_app (goodIn_of _ (by decide +kernel)) ggX5_foldOf_X4_rotateOnce
set_option maxRecDepth 20000 in
theorem ggX5_foldOf_X5_takeGreater : GoodIn wsX5_foldOf wsX5_takeGreater := goodIn_r _ [48, 1, 49, 50, 51, 52, 53, 54, 55, 47, 56, 57, 58, 59, 60, 61, 13, 62, 15, 16, 17, 63, 64, 65, 66, 23, 24, 25, 26, 35, 11, 12, 14, 18, 19, 20, 21, 22, 67, 32, 33, 34, 68, 69, 70, 71, 72, 73, 74, 75, 6, 76, 8, 9, 77, 78, 79, 80, 81, 82, 86, 87, 88, 84, 85] (by decide +kernel) (by decide +kernel)
set_option maxRecDepth 20000 in
theorem gX5_foldOf_X5_takeGreater : GoodIn wsX5_foldOf (wsV RX5 77 RX5 yX5_takeGreater wsX5_takeGreater) := goodIn_app (goodIn_of _ (by decide +kernel)) ggX5_foldOf_X5_takeGreater
theorem dX5_foldOf_0 : decode cX5_foldOf 0 = .ok (.aload_n 0, 1) := by decide +kernel
theorem dX5_foldOf_1 : decode cX5_foldOf 1 = .ok (.getfield 12, 3) := by decide +kernel
theorem dX5_foldOf_4 : decode cX5_foldOf 4 = .ok (.invokevirtual 74, 3) := by decide +kernel
theorem dX5_foldOf_7 : decode cX5_foldOf 7 = .ok (.iconst 0, 1) := by decide +kernel
theorem dX5_foldOf_8 : decode cX5_foldOf 8 = .ok (.istore_n 3, 1) := by decide +kernel
theorem dX5_foldOf_9 : decode cX5_foldOf 9 = .ok (.iload_n 3, 1) := by decide +kernel
theorem dX5_foldOf_10 : decode cX5_foldOf 10 = .ok (.iconst 3, 1) := by decide +kernel
theorem dX5_foldOf_11 : decode cX5_foldOf 11 = .ok (.if_icmp .ge 95, 3) := by decide +kernel
theorem dX5_foldOf_14 : decode cX5_foldOf 14 = .ok (.aload_n 1, 1) := by decide +kernel
theorem dX5_foldOf_15 : decode cX5_foldOf 15 = .ok (.getfield 34, 3) := by decide +kernel
theorem dX5_foldOf_18 : decode cX5_foldOf 18 = .ok (.iload_n 3, 1) := by decide +kernel
theorem dX5_foldOf_19 : decode cX5_foldOf 19 = .ok (.aaload, 1) := by decide +kernel
theorem dX5_foldOf_20 : decode cX5_foldOf 20 = .ok (.astore 4, 2) := by decide +kernel
theorem dX5_foldOf_22 : decode cX5_foldOf 22 = .ok (.iload_n 2, 1) := by decide +kernel
theorem dX5_foldOf_23 : decode cX5_foldOf 23 = .ok (.tableswitch 67 0 2 #[25, 38, 58], 25) := by decide +kernel
theorem dX5_foldOf_48 : decode cX5_foldOf 48 = .ok (.aload_n 0, 1) := by decide +kernel
theorem dX5_foldOf_49 : decode cX5_foldOf 49 = .ok (.getfield 12, 3) := by decide +kernel
theorem dX5_foldOf_52 : decode cX5_foldOf 52 = .ok (.aload 4, 2) := by decide +kernel
theorem dX5_foldOf_54 : decode cX5_foldOf 54 = .ok (.iconst 1, 1) := by decide +kernel
theorem dX5_foldOf_55 : decode cX5_foldOf 55 = .ok (.invokevirtual 51, 3) := by decide +kernel
theorem dX5_foldOf_58 : decode cX5_foldOf 58 = .ok (.goto 42, 3) := by decide +kernel
theorem dX5_foldOf_61 : decode cX5_foldOf 61 = .ok (.aload_n 0, 1) := by decide +kernel
theorem dX5_foldOf_62 : decode cX5_foldOf 62 = .ok (.getfield 12, 3) := by decide +kernel
theorem dX5_foldOf_65 : decode cX5_foldOf 65 = .ok (.invokevirtual 48, 3) := by decide +kernel
theorem dX5_foldOf_68 : decode cX5_foldOf 68 = .ok (.aload_n 0, 1) := by decide +kernel
theorem dX5_foldOf_69 : decode cX5_foldOf 69 = .ok (.getfield 12, 3) := by decide +kernel
theorem dX5_foldOf_72 : decode cX5_foldOf 72 = .ok (.aload 4, 2) := by decide +kernel
theorem dX5_foldOf_74 : decode cX5_foldOf 74 = .ok (.iconst 1, 1) := by decide +kernel
theorem dX5_foldOf_75 : decode cX5_foldOf 75 = .ok (.invokevirtual 51, 3) := by decide +kernel
theorem dX5_foldOf_78 : decode cX5_foldOf 78 = .ok (.goto 22, 3) := by decide +kernel
theorem dX5_foldOf_81 : decode cX5_foldOf 81 = .ok (.aload_n 0, 1) := by decide +kernel
theorem dX5_foldOf_82 : decode cX5_foldOf 82 = .ok (.aload 4, 2) := by decide +kernel
theorem dX5_foldOf_84 : decode cX5_foldOf 84 = .ok (.invokevirtual 77, 3) := by decide +kernel
theorem dX5_foldOf_87 : decode cX5_foldOf 87 = .ok (.goto 13, 3) := by decide +kernel
theorem dX5_foldOf_90 : decode cX5_foldOf 90 = .ok (.aload_n 0, 1) := by decide +kernel
theorem dX5_foldOf_91 : decode cX5_foldOf 91 = .ok (.getfield 12, 3) := by decide +kernel
theorem dX5_foldOf_94 : decode cX5_foldOf 94 = .ok (.aload 4, 2) := by decide +kernel
theorem dX5_foldOf_96 : decode cX5_foldOf 96 = .ok (.iconst (-1), 1) := by decide +kernel
theorem dX5_foldOf_97 : decode cX5_foldOf 97 = .ok (.invokevirtual 51, 3) := by decide +kernel
theorem dX5_foldOf_100 : decode cX5_foldOf 100 = .ok (.iinc 3 1, 3) := by decide +kernel
theorem dX5_foldOf_103 : decode cX5_foldOf 103 = .ok (.goto (-94), 3) := by decide +kernel
theorem dX5_foldOf_106 : decode cX5_foldOf 106 = .ok (.aload_n 0, 1) := by decide +kernel
theorem dX5_foldOf_107 : decode cX5_foldOf 107 = .ok (.getfield 12, 3) := by decide +kernel
theorem dX5_foldOf_110 : decode cX5_foldOf 110 = .ok (.areturn, 1) := by decide +kernel
set_option maxRecDepth 20000 in
theorem ggX5_takeGreater_X5_reckonNorm : GoodIn wsX5_takeGreater wsX5_reckonNorm := goodIn_r _ [10, 5, 11, 12, 13, 14, 15, 16, 17, 18, 19, 20, 21, 22, 23, 24, 25, 26, 27, 28, 29, 30, 31, 32, 33, 34, 35, 36, 37, 38, 39, 40, 41, 63, 64, 55, 56, 57, 58, 59, 60, 61, 62] (by decide +kernel) (by decide +kernel)
set_option maxRecDepth 20000 in
theorem gX5_takeGreater_X5_reckonNorm : GoodIn wsX5_takeGreater (wsV RX5 55 RX5 yX5_reckonNorm wsX5_reckonNorm) := goodIn_app (goodIn_of _ (by decide +kernel)) ggX5_takeGreater_X5_reckonNorm
set_option maxRecDepth 20000 in
theorem ggX5_takeGreater_X1_spoil : GoodIn wsX5_takeGreater wsX1_spoil := goodIn_r _ [28, 18, 19, 20, 60, 61, 62] (by decide +kernel) (by decide +kernel)
set_option maxRecDepth 20000 in
theorem gX5_takeGreater_X1_spoil : GoodIn wsX5_takeGreater (wsV RX5 84 RX1 yX1_spoil wsX1_spoil) := goodIn_app (goodIn_of _ (by decide +kernel)) ggX5_takeGreater_X1_spoil
set_option maxRecDepth 20000 in
theorem ggX5_takeGreater_X1_isMoreThan : GoodIn wsX5_takeGreater wsX1_isMoreThan := goodIn_r _ [46, 18, 19, 60, 61, 62] (by decide +kernel) (by decide +kernel)
set_option maxRecDepth 20000 in
theorem gX5_takeGreater_X1_isMoreThan : GoodIn wsX5_takeGreater (wsV RX5 87 RX1 yX1_isMoreThan wsX1_isMoreThan) := goodIn_app (goodIn_of _ (by decide +kernel)) ggX5_takeGreater_X1_isMoreThan
set_option maxRecDepth 20000 in
theorem ggX5_takeGreater_X4_become : GoodIn wsX5_takeGreater wsX4_become := goodIn_r _ [51, 52, 53, 54, 14, 15, 16, 17, 18, 19, 20, 63, 64, 60, 61, 62] (by decide +kernel) (by decide +kernel)
set_option maxRecDepth 20000 in
theorem gX5_takeGreater_X4_become : GoodIn wsX5_takeGreater (wsV RX5 40 RX4 yX4_become wsX4_become) := goodIn_app (goodIn_of _ (by decide +kernel)) ggX5_takeGreater_X4_become
theorem dX5_takeGreater_0 : decode cX5_takeGreater 0 = .ok (.aload_n 0, 1) := by decide +kernel
theorem dX5_takeGreater_1 : decode cX5_takeGreater 1 = .ok (.aload_n 0, 1) := by decide +kernel
theorem dX5_takeGreater_2 : decode cX5_takeGreater 2 = .ok (.getfield 12, 3) := by decide +kernel
theorem dX5_takeGreater_5 : decode cX5_takeGreater 5 = .ok (.aload_n 0, 1) := by decide +kernel
theorem dX5_takeGreater_6 : decode cX5_takeGreater 6 = .ok (.getfield 28, 3) := by decide +kernel
theorem dX5_takeGreater_9 : decode cX5_takeGreater 9 = .ok (.invokevirtual 55, 3) := by decide +kernel
theorem dX5_takeGreater_12 : decode cX5_takeGreater 12 = .ok (.aload_n 0, 1) := by decide +kernel
theorem dX5_takeGreater_13 : decode cX5_takeGreater 13 = .ok (.aload_n 1, 1) := by decide +kernel
theorem dX5_takeGreater_14 : decode cX5_takeGreater 14 = .ok (.aload_n 0, 1) := by decide +kernel
theorem dX5_takeGreater_15 : decode cX5_takeGreater 15 = .ok (.getfield 31, 3) := by decide +kernel
theorem dX5_takeGreater_18 : decode cX5_takeGreater 18 = .ok (.invokevirtual 55, 3) := by decide +kernel
theorem dX5_takeGreater_21 : decode cX5_takeGreater 21 = .ok (.aload_n 0, 1) := by decide +kernel
theorem dX5_takeGreater_22 : decode cX5_takeGreater 22 = .ok (.getfield 28, 3) := by decide +kernel
theorem dX5_takeGreater_25 : decode cX5_takeGreater 25 = .ok (.getfield 80, 3) := by decide +kernel
theorem dX5_takeGreater_28 : decode cX5_takeGreater 28 = .ok (.ifCond .ne 13, 3) := by decide +kernel
theorem dX5_takeGreater_31 : decode cX5_takeGreater 31 = .ok (.aload_n 0, 1) := by decide +kernel
theorem dX5_takeGreater_32 : decode cX5_takeGreater 32 = .ok (.getfield 31, 3) := by decide +kernel
theorem dX5_takeGreater_35 : decode cX5_takeGreater 35 = .ok (.getfield 80, 3) := by decide +kernel
theorem dX5_takeGreater_38 : decode cX5_takeGreater 38 = .ok (.ifCond .eq 16, 3) := by decide +kernel
theorem dX5_takeGreater_41 : decode cX5_takeGreater 41 = .ok (.aload_n 0, 1) := by decide +kernel
theorem dX5_takeGreater_42 : decode cX5_takeGreater 42 = .ok (.getfield 12, 3) := by decide +kernel
theorem dX5_takeGreater_45 : decode cX5_takeGreater 45 = .ok (.getfield 59, 3) := by decide +kernel
theorem dX5_takeGreater_48 : decode cX5_takeGreater 48 = .ok (.invokevirtual 84, 3) := by decide +kernel
theorem dX5_takeGreater_51 : decode cX5_takeGreater 51 = .ok (.goto 25, 3) := by decide +kernel
theorem dX5_takeGreater_54 : decode cX5_takeGreater 54 = .ok (.aload_n 0, 1) := by decide +kernel
theorem dX5_takeGreater_55 : decode cX5_takeGreater 55 = .ok (.getfield 31, 3) := by decide +kernel
theorem dX5_takeGreater_58 : decode cX5_takeGreater 58 = .ok (.aload_n 0, 1) := by decide +kernel
theorem dX5_takeGreater_59 : decode cX5_takeGreater 59 = .ok (.getfield 28, 3) := by decide +kernel
theorem dX5_takeGreater_62 : decode cX5_takeGreater 62 = .ok (.invokevirtual 87, 3) := by decide +kernel
theorem dX5_takeGreater_65 : decode cX5_takeGreater 65 = .ok (.ifCond .eq 11, 3) := by decide +kernel
theorem dX5_takeGreater_68 : decode cX5_takeGreater 68 = .ok (.aload_n 0, 1) := by decide +kernel
theorem dX5_takeGreater_69 : decode cX5_takeGreater 69 = .ok (.getfield 12, 3) := by decide +kernel
theorem dX5_takeGreater_72 : decode cX5_takeGreater 72 = .ok (.aload_n 1, 1) := by decide +kernel
theorem dX5_takeGreater_73 : decode cX5_takeGreater 73 = .ok (.invokevirtual 40, 3) := by decide +kernel
theorem dX5_takeGreater_76 : decode cX5_takeGreater 76 = .ok (.return_, 1) := by decide +kernel
set_option maxRecDepth 20000 in
theorem ggX5_greatestOf_X5_reckonNorm : GoodIn wsX5_greatestOf wsX5_reckonNorm := goodIn_r _ [10, 11, 12, 13, 14, 15, 16, 17, 18, 19, 20, 21, 22, 23, 24, 25, 26, 27, 28, 29, 30, 31, 32, 33, 34, 35, 36, 37, 38, 39, 40, 41, 42, 56, 57, 48, 49, 50, 51, 52, 53, 54, 55] (by decide +kernel) (by decide +kernel)
set_option maxRecDepth 20000 in
theorem gX5_greatestOf_X5_reckonNorm : GoodIn wsX5_greatestOf (wsV RX5 55 RX5 yX5_reckonNorm wsX5_reckonNorm) := goodIn_app (goodIn_of _ (by decide +kernel)) ggX5_greatestOf_X5_reckonNorm
set_option maxRecDepth 20000 in
theorem ggX5_greatestOf_X1_isMoreThan : GoodIn wsX5_greatestOf wsX1_isMoreThan := goodIn_r _ [46, 19, 20, 53, 54, 55] (by decide +kernel) (by decide +kernel)
set_option maxRecDepth 20000 in
theorem gX5_greatestOf_X1_isMoreThan : GoodIn wsX5_greatestOf (wsV RX5 87 RX1 yX1_isMoreThan wsX1_isMoreThan) := goodIn_app (goodIn_of _ (by decide +kernel)) ggX5_greatestOf_X1_isMoreThan
set_option maxRecDepth 20000 in
theorem ggX5_greatestOf_X1_become : GoodIn wsX5_greatestOf wsX1_become := goodIn_r _ [18, 19, 20, 21, 53, 54, 55] (by decide +kernel) (by decide +kernel)
set_option maxRecDepth 20000 in
theorem gX5_greatestOf_X1_become : GoodIn wsX5_greatestOf (wsV RX5 62 RX1 yX1_become wsX1_become) := goodIn_app (goodIn_of _ (by decide +kernel)) ggX5_greatestOf_X1_become
theorem dX5_greatestOf_0 : decode cX5_greatestOf 0 = .ok (.iconst 0, 1) := by decide +kernel
theorem dX5_greatestOf_1 : decode cX5_greatestOf 1 = .ok (.istore_n 2, 1) := by decide +kernel
theorem dX5_greatestOf_2 : decode cX5_greatestOf 2 = .ok (.aload_n 0, 1) := by decide +kernel
theorem dX5_greatestOf_3 : decode cX5_greatestOf 3 = .ok (.aload_n 1, 1) := by decide +kernel
theorem dX5_greatestOf_4 : decode cX5_greatestOf 4 = .ok (.getfield 34, 3) := by decide +kernel
theorem dX5_greatestOf_7 : decode cX5_greatestOf 7 = .ok (.iconst 0, 1) := by decide +kernel
theorem dX5_greatestOf_8 : decode cX5_greatestOf 8 = .ok (.aaload, 1) := by decide +kernel
theorem dX5_greatestOf_9 : decode cX5_greatestOf 9 = .ok (.aload_n 0, 1) := by decide +kernel
theorem dX5_greatestOf_10 : decode cX5_greatestOf 10 = .ok (.getfield 28, 3) := by decide +kernel
theorem dX5_greatestOf_13 : decode cX5_greatestOf 13 = .ok (.invokevirtual 55, 3) := by decide +kernel
theorem dX5_greatestOf_16 : decode cX5_greatestOf 16 = .ok (.aload_n 0, 1) := by decide +kernel
theorem dX5_greatestOf_17 : decode cX5_greatestOf 17 = .ok (.getfield 28, 3) := by decide +kernel
theorem dX5_greatestOf_20 : decode cX5_greatestOf 20 = .ok (.getfield 80, 3) := by decide +kernel
theorem dX5_greatestOf_23 : decode cX5_greatestOf 23 = .ok (.istore_n 3, 1) := by decide +kernel
theorem dX5_greatestOf_24 : decode cX5_greatestOf 24 = .ok (.iconst 1, 1) := by decide +kernel
theorem dX5_greatestOf_25 : decode cX5_greatestOf 25 = .ok (.istore 4, 2) := by decide +kernel
theorem dX5_greatestOf_27 : decode cX5_greatestOf 27 = .ok (.iload 4, 2) := by decide +kernel
theorem dX5_greatestOf_29 : decode cX5_greatestOf 29 = .ok (.iconst 3, 1) := by decide +kernel
theorem dX5_greatestOf_30 : decode cX5_greatestOf 30 = .ok (.if_icmp .ge 62, 3) := by decide +kernel
theorem dX5_greatestOf_33 : decode cX5_greatestOf 33 = .ok (.aload_n 0, 1) := by decide +kernel
theorem dX5_greatestOf_34 : decode cX5_greatestOf 34 = .ok (.aload_n 1, 1) := by decide +kernel
theorem dX5_greatestOf_35 : decode cX5_greatestOf 35 = .ok (.getfield 34, 3) := by decide +kernel
theorem dX5_greatestOf_38 : decode cX5_greatestOf 38 = .ok (.iload 4, 2) := by decide +kernel
theorem dX5_greatestOf_40 : decode cX5_greatestOf 40 = .ok (.aaload, 1) := by decide +kernel
theorem dX5_greatestOf_41 : decode cX5_greatestOf 41 = .ok (.aload_n 0, 1) := by decide +kernel
theorem dX5_greatestOf_42 : decode cX5_greatestOf 42 = .ok (.getfield 31, 3) := by decide +kernel
theorem dX5_greatestOf_45 : decode cX5_greatestOf 45 = .ok (.invokevirtual 55, 3) := by decide +kernel
theorem dX5_greatestOf_48 : decode cX5_greatestOf 48 = .ok (.iload_n 3, 1) := by decide +kernel
theorem dX5_greatestOf_49 : decode cX5_greatestOf 49 = .ok (.aload_n 0, 1) := by decide +kernel
theorem dX5_greatestOf_50 : decode cX5_greatestOf 50 = .ok (.getfield 31, 3) := by decide +kernel
theorem dX5_greatestOf_53 : decode cX5_greatestOf 53 = .ok (.getfield 80, 3) := by decide +kernel
theorem dX5_greatestOf_56 : decode cX5_greatestOf 56 = .ok (.ior, 1) := by decide +kernel
theorem dX5_greatestOf_57 : decode cX5_greatestOf 57 = .ok (.istore_n 3, 1) := by decide +kernel
theorem dX5_greatestOf_58 : decode cX5_greatestOf 58 = .ok (.aload_n 0, 1) := by decide +kernel
theorem dX5_greatestOf_59 : decode cX5_greatestOf 59 = .ok (.getfield 31, 3) := by decide +kernel
theorem dX5_greatestOf_62 : decode cX5_greatestOf 62 = .ok (.aload_n 0, 1) := by decide +kernel
theorem dX5_greatestOf_63 : decode cX5_greatestOf 63 = .ok (.getfield 28, 3) := by decide +kernel
theorem dX5_greatestOf_66 : decode cX5_greatestOf 66 = .ok (.invokevirtual 87, 3) := by decide +kernel
theorem dX5_greatestOf_69 : decode cX5_greatestOf 69 = .ok (.ifCond .eq 17, 3) := by decide +kernel
theorem dX5_greatestOf_72 : decode cX5_greatestOf 72 = .ok (.iload 4, 2) := by decide +kernel
theorem dX5_greatestOf_74 : decode cX5_greatestOf 74 = .ok (.istore_n 2, 1) := by decide +kernel
theorem dX5_greatestOf_75 : decode cX5_greatestOf 75 = .ok (.aload_n 0, 1) := by decide +kernel
theorem dX5_greatestOf_76 : decode cX5_greatestOf 76 = .ok (.getfield 28, 3) := by decide +kernel
theorem dX5_greatestOf_79 : decode cX5_greatestOf 79 = .ok (.aload_n 0, 1) := by decide +kernel
theorem dX5_greatestOf_80 : decode cX5_greatestOf 80 = .ok (.getfield 31, 3) := by decide +kernel
theorem dX5_greatestOf_83 : decode cX5_greatestOf 83 = .ok (.invokevirtual 62, 3) := by decide +kernel
theorem dX5_greatestOf_86 : decode cX5_greatestOf 86 = .ok (.iinc 4 1, 3) := by decide +kernel
theorem dX5_greatestOf_89 : decode cX5_greatestOf 89 = .ok (.goto (-62), 3) := by decide +kernel
theorem dX5_greatestOf_92 : decode cX5_greatestOf 92 = .ok (.iload_n 3, 1) := by decide +kernel
theorem dX5_greatestOf_93 : decode cX5_greatestOf 93 = .ok (.ifCond .eq 8, 3) := by decide +kernel
theorem dX5_greatestOf_96 : decode cX5_greatestOf 96 = .ok (.ldc 91, 2) := by decide +kernel
theorem dX5_greatestOf_98 : decode cX5_greatestOf 98 = .ok (.goto 4, 3) := by decide +kernel
theorem dX5_greatestOf_101 : decode cX5_greatestOf 101 = .ok (.iload_n 2, 1) := by decide +kernel
theorem dX5_greatestOf_102 : decode cX5_greatestOf 102 = .ok (.ireturn, 1) := by decide +kernel
set_option maxRecDepth 20000 in
theorem ggX5_areNormsAlike_X5_reckonNorm : GoodIn wsX5_areNormsAlike wsX5_reckonNorm := goodIn_r _ [10, 11, 12, 13, 14, 15, 16, 17, 18, 19, 20, 21, 22, 23, 24, 25, 26, 27, 28, 29, 30, 31, 32, 33, 34, 35, 36, 37, 38, 39, 40, 41, 42, 59, 60, 51, 52, 53, 54, 55, 56, 57, 58] (by decide +kernel) (by decide +kernel)
set_option maxRecDepth 20000 in
theorem gX5_areNormsAlike_X5_reckonNorm : GoodIn wsX5_areNormsAlike (wsV RX5 55 RX5 yX5_reckonNorm wsX5_reckonNorm) := goodIn_app (goodIn_of _ (by decide +kernel)) ggX5_areNormsAlike_X5_reckonNorm
set_option maxRecDepth 20000 in
theorem ggX5_areNormsAlike_X1_isAs : GoodIn wsX5_areNormsAlike wsX1_isAs := goodIn_r _ [46, 19, 20, 56, 57, 58] (by decide +kernel) (by decide +kernel)
set_option maxRecDepth 20000 in
theorem gX5_areNormsAlike_X1_isAs : GoodIn wsX5_areNormsAlike (wsV RX5 92 RX1 yX1_isAs wsX1_isAs) := goodIn_app (goodIn_of _ (by decide +kernel)) ggX5_areNormsAlike_X1_isAs
set_option maxRecDepth 20000 in
theorem ggX5_areNormsAlike_X9_asBit : GoodIn wsX5_areNormsAlike wsX9_asBit := goodIn_r _ [49] (by decide +kernel) (by decide +kernel)
set_option maxRecDepth 20000 in
theorem gX5_areNormsAlike_X9_asBit_n95 : GoodIn wsX5_areNormsAlike (wsX9_asBit) := ggX5_areNormsAlike_X9_asBit
theorem dX5_areNormsAlike_0 : decode cX5_areNormsAlike 0 = .ok (.iconst 1, 1) := by decide +kernel
theorem dX5_areNormsAlike_1 : decode cX5_areNormsAlike 1 = .ok (.istore_n 2, 1) := by decide +kernel
theorem dX5_areNormsAlike_2 : decode cX5_areNormsAlike 2 = .ok (.aload_n 0, 1) := by decide +kernel
theorem dX5_areNormsAlike_3 : decode cX5_areNormsAlike 3 = .ok (.aload_n 1, 1) := by decide +kernel
theorem dX5_areNormsAlike_4 : decode cX5_areNormsAlike 4 = .ok (.getfield 34, 3) := by decide +kernel
theorem dX5_areNormsAlike_7 : decode cX5_areNormsAlike 7 = .ok (.iconst 0, 1) := by decide +kernel
theorem dX5_areNormsAlike_8 : decode cX5_areNormsAlike 8 = .ok (.aaload, 1) := by decide +kernel
theorem dX5_areNormsAlike_9 : decode cX5_areNormsAlike 9 = .ok (.aload_n 0, 1) := by decide +kernel
theorem dX5_areNormsAlike_10 : decode cX5_areNormsAlike 10 = .ok (.getfield 28, 3) := by decide +kernel
theorem dX5_areNormsAlike_13 : decode cX5_areNormsAlike 13 = .ok (.invokevirtual 55, 3) := by decide +kernel
theorem dX5_areNormsAlike_16 : decode cX5_areNormsAlike 16 = .ok (.aload_n 0, 1) := by decide +kernel
theorem dX5_areNormsAlike_17 : decode cX5_areNormsAlike 17 = .ok (.getfield 28, 3) := by decide +kernel
theorem dX5_areNormsAlike_20 : decode cX5_areNormsAlike 20 = .ok (.getfield 80, 3) := by decide +kernel
theorem dX5_areNormsAlike_23 : decode cX5_areNormsAlike 23 = .ok (.istore_n 3, 1) := by decide +kernel
theorem dX5_areNormsAlike_24 : decode cX5_areNormsAlike 24 = .ok (.iconst 1, 1) := by decide +kernel
theorem dX5_areNormsAlike_25 : decode cX5_areNormsAlike 25 = .ok (.istore 4, 2) := by decide +kernel
theorem dX5_areNormsAlike_27 : decode cX5_areNormsAlike 27 = .ok (.iload 4, 2) := by decide +kernel
theorem dX5_areNormsAlike_29 : decode cX5_areNormsAlike 29 = .ok (.iconst 3, 1) := by decide +kernel
theorem dX5_areNormsAlike_30 : decode cX5_areNormsAlike 30 = .ok (.if_icmp .ge 48, 3) := by decide +kernel
theorem dX5_areNormsAlike_33 : decode cX5_areNormsAlike 33 = .ok (.aload_n 0, 1) := by decide +kernel
theorem dX5_areNormsAlike_34 : decode cX5_areNormsAlike 34 = .ok (.aload_n 1, 1) := by decide +kernel
theorem dX5_areNormsAlike_35 : decode cX5_areNormsAlike 35 = .ok (.getfield 34, 3) := by decide +kernel
theorem dX5_areNormsAlike_38 : decode cX5_areNormsAlike 38 = .ok (.iload 4, 2) := by decide +kernel
theorem dX5_areNormsAlike_40 : decode cX5_areNormsAlike 40 = .ok (.aaload, 1) := by decide +kernel
theorem dX5_areNormsAlike_41 : decode cX5_areNormsAlike 41 = .ok (.aload_n 0, 1) := by decide +kernel
theorem dX5_areNormsAlike_42 : decode cX5_areNormsAlike 42 = .ok (.getfield 31, 3) := by decide +kernel
theorem dX5_areNormsAlike_45 : decode cX5_areNormsAlike 45 = .ok (.invokevirtual 55, 3) := by decide +kernel
theorem dX5_areNormsAlike_48 : decode cX5_areNormsAlike 48 = .ok (.iload_n 3, 1) := by decide +kernel
theorem dX5_areNormsAlike_49 : decode cX5_areNormsAlike 49 = .ok (.aload_n 0, 1) := by decide +kernel
theorem dX5_areNormsAlike_50 : decode cX5_areNormsAlike 50 = .ok (.getfield 31, 3) := by decide +kernel
theorem dX5_areNormsAlike_53 : decode cX5_areNormsAlike 53 = .ok (.getfield 80, 3) := by decide +kernel
theorem dX5_areNormsAlike_56 : decode cX5_areNormsAlike 56 = .ok (.ior, 1) := by decide +kernel
theorem dX5_areNormsAlike_57 : decode cX5_areNormsAlike 57 = .ok (.istore_n 3, 1) := by decide +kernel
theorem dX5_areNormsAlike_58 : decode cX5_areNormsAlike 58 = .ok (.iload_n 2, 1) := by decide +kernel
theorem dX5_areNormsAlike_59 : decode cX5_areNormsAlike 59 = .ok (.aload_n 0, 1) := by decide +kernel
theorem dX5_areNormsAlike_60 : decode cX5_areNormsAlike 60 = .ok (.getfield 31, 3) := by decide +kernel
theorem dX5_areNormsAlike_63 : decode cX5_areNormsAlike 63 = .ok (.aload_n 0, 1) := by decide +kernel
theorem dX5_areNormsAlike_64 : decode cX5_areNormsAlike 64 = .ok (.getfield 28, 3) := by decide +kernel
theorem dX5_areNormsAlike_67 : decode cX5_areNormsAlike 67 = .ok (.invokevirtual 92, 3) := by decide +kernel
theorem dX5_areNormsAlike_70 : decode cX5_areNormsAlike 70 = .ok (.iand, 1) := by decide +kernel
theorem dX5_areNormsAlike_71 : decode cX5_areNormsAlike 71 = .ok (.istore_n 2, 1) := by decide +kernel
theorem dX5_areNormsAlike_72 : decode cX5_areNormsAlike 72 = .ok (.iinc 4 1, 3) := by decide +kernel
theorem dX5_areNormsAlike_75 : decode cX5_areNormsAlike 75 = .ok (.goto (-48), 3) := by decide +kernel
theorem dX5_areNormsAlike_78 : decode cX5_areNormsAlike 78 = .ok (.iload_n 3, 1) := by decide +kernel
theorem dX5_areNormsAlike_79 : decode cX5_areNormsAlike 79 = .ok (.ifCond .eq 8, 3) := by decide +kernel
theorem dX5_areNormsAlike_82 : decode cX5_areNormsAlike 82 = .ok (.ldc 91, 2) := by decide +kernel
theorem dX5_areNormsAlike_84 : decode cX5_areNormsAlike 84 = .ok (.goto 7, 3) := by decide +kernel
theorem dX5_areNormsAlike_87 : decode cX5_areNormsAlike 87 = .ok (.iload_n 2, 1) := by decide +kernel
theorem dX5_areNormsAlike_88 : decode cX5_areNormsAlike 88 = .ok (.invokestatic 95, 3) := by decide +kernel
theorem dX5_areNormsAlike_91 : decode cX5_areNormsAlike 91 = .ok (.ireturn, 1) := by decide +kernel
theorem dX6_init_0 : decode cX6_init 0 = .ok (.aload_n 0, 1) := by decide +kernel
theorem dX6_init_1 : decode cX6_init 1 = .ok (.invokespecial 3, 3) := by decide +kernel
theorem dX6_init_4 : decode cX6_init 4 = .ok (.aload_n 0, 1) := by decide +kernel
theorem dX6_init_5 : decode cX6_init 5 = .ok (.iconst 0, 1) := by decide +kernel
theorem dX6_init_6 : decode cX6_init 6 = .ok (.putfield 9, 3) := by decide +kernel
theorem dX6_init_9 : decode cX6_init 9 = .ok (.aload_n 0, 1) := by decide +kernel
theorem dX6_init_10 : decode cX6_init 10 = .ok (.iconst 0, 1) := by decide +kernel
theorem dX6_init_11 : decode cX6_init 11 = .ok (.putfield 15, 3) := by decide +kernel
theorem dX6_init_14 : decode cX6_init 14 = .ok (.aload_n 0, 1) := by decide +kernel
theorem dX6_init_15 : decode cX6_init 15 = .ok (.bipush 8, 2) := by decide +kernel
theorem dX6_init_17 : decode cX6_init 17 = .ok (.newarray .int, 2) := by decide +kernel
theorem dX6_init_19 : decode cX6_init 19 = .ok (.putfield 19, 3) := by decide +kernel
theorem dX6_init_22 : decode cX6_init 22 = .ok (.aload_n 0, 1) := by decide +kernel
theorem dX6_init_23 : decode cX6_init 23 = .ok (.bipush 8, 2) := by decide +kernel
theorem dX6_init_25 : decode cX6_init 25 = .ok (.newarray .int, 2) := by decide +kernel
theorem dX6_init_27 : decode cX6_init 27 = .ok (.putfield 23, 3) := by decide +kernel
theorem dX6_init_30 : decode cX6_init 30 = .ok (.aload_n 0, 1) := by decide +kernel
theorem dX6_init_31 : decode cX6_init 31 = .ok (.bipush 8, 2) := by decide +kernel
theorem dX6_init_33 : decode cX6_init 33 = .ok (.newarray .boolean, 2) := by decide +kernel
theorem dX6_init_35 : decode cX6_init 35 = .ok (.putfield 26, 3) := by decide +kernel
theorem dX6_init_38 : decode cX6_init 38 = .ok (.return_, 1) := by decide +kernel
theorem dX6_push_0 : decode cX6_push 0 = .ok (.aload_n 0, 1) := by decide +kernel
theorem dX6_push_1 : decode cX6_push 1 = .ok (.getfield 9, 3) := by decide +kernel
theorem dX6_push_4 : decode cX6_push 4 = .ok (.ifCond .ne 6, 3) := by decide +kernel
theorem dX6_push_7 : decode cX6_push 7 = .ok (.ldc 30, 2) := by decide +kernel
theorem dX6_push_9 : decode cX6_push 9 = .ok (.ireturn, 1) := by decide +kernel
theorem dX6_push_10 : decode cX6_push 10 = .ok (.aload_n 0, 1) := by decide +kernel
theorem dX6_push_11 : decode cX6_push 11 = .ok (.getfield 15, 3) := by decide +kernel
theorem dX6_push_14 : decode cX6_push 14 = .ok (.bipush 8, 2) := by decide +kernel
theorem dX6_push_16 : decode cX6_push 16 = .ok (.if_icmp .lt 6, 3) := by decide +kernel
theorem dX6_push_19 : decode cX6_push 19 = .ok (.ldc 31, 2) := by decide +kernel
theorem dX6_push_21 : decode cX6_push 21 = .ok (.ireturn, 1) := by decide +kernel
theorem dX6_push_22 : decode cX6_push 22 = .ok (.aload_n 0, 1) := by decide +kernel
theorem dX6_push_23 : decode cX6_push 23 = .ok (.getfield 19, 3) := by decide +kernel
theorem dX6_push_26 : decode cX6_push 26 = .ok (.aload_n 0, 1) := by decide +kernel
theorem dX6_push_27 : decode cX6_push 27 = .ok (.getfield 15, 3) := by decide +kernel
theorem dX6_push_30 : decode cX6_push 30 = .ok (.iload_n 2, 1) := by decide +kernel
theorem dX6_push_31 : decode cX6_push 31 = .ok (.iastore, 1) := by decide +kernel
theorem dX6_push_32 : decode cX6_push 32 = .ok (.aload_n 0, 1) := by decide +kernel
theorem dX6_push_33 : decode cX6_push 33 = .ok (.getfield 23, 3) := by decide +kernel
theorem dX6_push_36 : decode cX6_push 36 = .ok (.aload_n 0, 1) := by decide +kernel
theorem dX6_push_37 : decode cX6_push 37 = .ok (.getfield 15, 3) := by decide +kernel
theorem dX6_push_40 : decode cX6_push 40 = .ok (.iload_n 1, 1) := by decide +kernel
theorem dX6_push_41 : decode cX6_push 41 = .ok (.ifCond .eq 7, 3) := by decide +kernel
theorem dX6_push_44 : decode cX6_push 44 = .ok (.iload_n 3, 1) := by decide +kernel
theorem dX6_push_45 : decode cX6_push 45 = .ok (.goto 4, 3) := by decide +kernel
theorem dX6_push_48 : decode cX6_push 48 = .ok (.iconst 0, 1) := by decide +kernel
theorem dX6_push_49 : decode cX6_push 49 = .ok (.iastore, 1) := by decide +kernel
theorem dX6_push_50 : decode cX6_push 50 = .ok (.aload_n 0, 1) := by decide +kernel
theorem dX6_push_51 : decode cX6_push 51 = .ok (.getfield 26, 3) := by decide +kernel
theorem dX6_push_54 : decode cX6_push 54 = .ok (.aload_n 0, 1) := by decide +kernel
theorem dX6_push_55 : decode cX6_push 55 = .ok (.getfield 15, 3) := by decide +kernel
theorem dX6_push_58 : decode cX6_push 58 = .ok (.iload_n 1, 1) := by decide +kernel
theorem dX6_push_59 : decode cX6_push 59 = .ok (.bastore, 1) := by decide +kernel
theorem dX6_push_60 : decode cX6_push 60 = .ok (.aload_n 0, 1) := by decide +kernel
theorem dX6_push_61 : decode cX6_push 61 = .ok (.dup, 1) := by decide +kernel
theorem dX6_push_62 : decode cX6_push 62 = .ok (.getfield 15, 3) := by decide +kernel
theorem dX6_push_65 : decode cX6_push 65 = .ok (.iconst 1, 1) := by decide +kernel
theorem dX6_push_66 : decode cX6_push 66 = .ok (.iadd, 1) := by decide +kernel
theorem dX6_push_67 : decode cX6_push 67 = .ok (.putfield 15, 3) := by decide +kernel
theorem dX6_push_70 : decode cX6_push 70 = .ok (.aload_n 0, 1) := by decide +kernel
theorem dX6_push_71 : decode cX6_push 71 = .ok (.getfield 15, 3) := by decide +kernel
theorem dX6_push_74 : decode cX6_push 74 = .ok (.ireturn, 1) := by decide +kernel
theorem dX6_pop_0 : decode cX6_pop 0 = .ok (.aload_n 0, 1) := by decide +kernel
theorem dX6_pop_1 : decode cX6_pop 1 = .ok (.getfield 9, 3) := by decide +kernel
theorem dX6_pop_4 : decode cX6_pop 4 = .ok (.ifCond .ne 6, 3) := by decide +kernel
theorem dX6_pop_7 : decode cX6_pop 7 = .ok (.ldc 30, 2) := by decide +kernel
theorem dX6_pop_9 : decode cX6_pop 9 = .ok (.ireturn, 1) := by decide +kernel
theorem dX6_pop_10 : decode cX6_pop 10 = .ok (.aload_n 0, 1) := by decide +kernel
theorem dX6_pop_11 : decode cX6_pop 11 = .ok (.getfield 15, 3) := by decide +kernel
theorem dX6_pop_14 : decode cX6_pop 14 = .ok (.iconst 1, 1) := by decide +kernel
theorem dX6_pop_15 : decode cX6_pop 15 = .ok (.if_icmp .ge 6, 3) := by decide +kernel
theorem dX6_pop_18 : decode cX6_pop 18 = .ok (.ldc 32, 2) := by decide +kernel
theorem dX6_pop_20 : decode cX6_pop 20 = .ok (.ireturn, 1) := by decide +kernel
theorem dX6_pop_21 : decode cX6_pop 21 = .ok (.aload_n 0, 1) := by decide +kernel
theorem dX6_pop_22 : decode cX6_pop 22 = .ok (.getfield 26, 3) := by decide +kernel
theorem dX6_pop_25 : decode cX6_pop 25 = .ok (.aload_n 0, 1) := by decide +kernel
theorem dX6_pop_26 : decode cX6_pop 26 = .ok (.getfield 15, 3) := by decide +kernel
theorem dX6_pop_29 : decode cX6_pop 29 = .ok (.iconst 1, 1) := by decide +kernel
theorem dX6_pop_30 : decode cX6_pop 30 = .ok (.isub, 1) := by decide +kernel
theorem dX6_pop_31 : decode cX6_pop 31 = .ok (.baload, 1) := by decide +kernel
theorem dX6_pop_32 : decode cX6_pop 32 = .ok (.iload_n 1, 1) := by decide +kernel
theorem dX6_pop_33 : decode cX6_pop 33 = .ok (.if_icmp .eq 6, 3) := by decide +kernel
theorem dX6_pop_36 : decode cX6_pop 36 = .ok (.ldc 33, 2) := by decide +kernel
theorem dX6_pop_38 : decode cX6_pop 38 = .ok (.ireturn, 1) := by decide +kernel
theorem dX6_pop_39 : decode cX6_pop 39 = .ok (.aload_n 0, 1) := by decide +kernel
theorem dX6_pop_40 : decode cX6_pop 40 = .ok (.dup, 1) := by decide +kernel
theorem dX6_pop_41 : decode cX6_pop 41 = .ok (.getfield 15, 3) := by decide +kernel
theorem dX6_pop_44 : decode cX6_pop 44 = .ok (.iconst 1, 1) := by decide +kernel
theorem dX6_pop_45 : decode cX6_pop 45 = .ok (.isub, 1) := by decide +kernel
theorem dX6_pop_46 : decode cX6_pop 46 = .ok (.putfield 15, 3) := by decide +kernel
theorem dX6_pop_49 : decode cX6_pop 49 = .ok (.aload_n 0, 1) := by decide +kernel
theorem dX6_pop_50 : decode cX6_pop 50 = .ok (.getfield 19, 3) := by decide +kernel
theorem dX6_pop_53 : decode cX6_pop 53 = .ok (.aload_n 0, 1) := by decide +kernel
theorem dX6_pop_54 : decode cX6_pop 54 = .ok (.getfield 15, 3) := by decide +kernel
theorem dX6_pop_57 : decode cX6_pop 57 = .ok (.iaload, 1) := by decide +kernel
theorem dX6_pop_58 : decode cX6_pop 58 = .ok (.istore_n 2, 1) := by decide +kernel
theorem dX6_pop_59 : decode cX6_pop 59 = .ok (.aload_n 0, 1) := by decide +kernel
theorem dX6_pop_60 : decode cX6_pop 60 = .ok (.getfield 23, 3) := by decide +kernel
theorem dX6_pop_63 : decode cX6_pop 63 = .ok (.aload_n 0, 1) := by decide +kernel
theorem dX6_pop_64 : decode cX6_pop 64 = .ok (.getfield 15, 3) := by decide +kernel
theorem dX6_pop_67 : decode cX6_pop 67 = .ok (.iaload, 1) := by decide +kernel
theorem dX6_pop_68 : decode cX6_pop 68 = .ok (.istore_n 3, 1) := by decide +kernel
theorem dX6_pop_69 : decode cX6_pop 69 = .ok (.iload_n 1, 1) := by decide +kernel
theorem dX6_pop_70 : decode cX6_pop 70 = .ok (.ifCond .eq 17, 3) := by decide +kernel
theorem dX6_pop_73 : decode cX6_pop 73 = .ok (.iload_n 2, 1) := by decide +kernel
theorem dX6_pop_74 : decode cX6_pop 74 = .ok (.iload_n 2, 1) := by decide +kernel
theorem dX6_pop_75 : decode cX6_pop 75 = .ok (.imul, 1) := by decide +kernel
theorem dX6_pop_76 : decode cX6_pop 76 = .ok (.iload_n 2, 1) := by decide +kernel
theorem dX6_pop_77 : decode cX6_pop 77 = .ok (.iload_n 3, 1) := by decide +kernel
theorem dX6_pop_78 : decode cX6_pop 78 = .ok (.imul, 1) := by decide +kernel
theorem dX6_pop_79 : decode cX6_pop 79 = .ok (.isub, 1) := by decide +kernel
theorem dX6_pop_80 : decode cX6_pop 80 = .ok (.iload_n 3, 1) := by decide +kernel
theorem dX6_pop_81 : decode cX6_pop 81 = .ok (.iload_n 3, 1) := by decide +kernel
theorem dX6_pop_82 : decode cX6_pop 82 = .ok (.imul, 1) := by decide +kernel
theorem dX6_pop_83 : decode cX6_pop 83 = .ok (.iadd, 1) := by decide +kernel
theorem dX6_pop_84 : decode cX6_pop 84 = .ok (.goto 4, 3) := by decide +kernel
theorem dX6_pop_87 : decode cX6_pop 87 = .ok (.iload_n 2, 1) := by decide +kernel
theorem dX6_pop_88 : decode cX6_pop 88 = .ok (.ireturn, 1) := by decide +kernel
theorem dX6_totalOf_0 : decode cX6_totalOf 0 = .ok (.aload_n 0, 1) := by decide +kernel
theorem dX6_totalOf_1 : decode cX6_totalOf 1 = .ok (.getfield 9, 3) := by decide +kernel
theorem dX6_totalOf_4 : decode cX6_totalOf 4 = .ok (.ifCond .ne 6, 3) := by decide +kernel
theorem dX6_totalOf_7 : decode cX6_totalOf 7 = .ok (.ldc 30, 2) := by decide +kernel
theorem dX6_totalOf_9 : decode cX6_totalOf 9 = .ok (.ireturn, 1) := by decide +kernel
theorem dX6_totalOf_10 : decode cX6_totalOf 10 = .ok (.iconst 0, 1) := by decide +kernel
theorem dX6_totalOf_11 : decode cX6_totalOf 11 = .ok (.istore_n 2, 1) := by decide +kernel
theorem dX6_totalOf_12 : decode cX6_totalOf 12 = .ok (.iconst 0, 1) := by decide +kernel
theorem dX6_totalOf_13 : decode cX6_totalOf 13 = .ok (.istore_n 3, 1) := by decide +kernel
theorem dX6_totalOf_14 : decode cX6_totalOf 14 = .ok (.iload_n 3, 1) := by decide +kernel
theorem dX6_totalOf_15 : decode cX6_totalOf 15 = .ok (.aload_n 0, 1) := by decide +kernel
theorem dX6_totalOf_16 : decode cX6_totalOf 16 = .ok (.getfield 15, 3) := by decide +kernel
theorem dX6_totalOf_19 : decode cX6_totalOf 19 = .ok (.if_icmp .ge 56, 3) := by decide +kernel
theorem dX6_totalOf_22 : decode cX6_totalOf 22 = .ok (.iload_n 1, 1) := by decide +kernel
theorem dX6_totalOf_23 : decode cX6_totalOf 23 = .ok (.iconst 2, 1) := by decide +kernel
theorem dX6_totalOf_24 : decode cX6_totalOf 24 = .ok (.if_icmp .ne 23, 3) := by decide +kernel
theorem dX6_totalOf_27 : decode cX6_totalOf 27 = .ok (.iload_n 2, 1) := by decide +kernel
theorem dX6_totalOf_28 : decode cX6_totalOf 28 = .ok (.aload_n 0, 1) := by decide +kernel
theorem dX6_totalOf_29 : decode cX6_totalOf 29 = .ok (.getfield 26, 3) := by decide +kernel
theorem dX6_totalOf_32 : decode cX6_totalOf 32 = .ok (.iload_n 3, 1) := by decide +kernel
theorem dX6_totalOf_33 : decode cX6_totalOf 33 = .ok (.baload, 1) := by decide +kernel
theorem dX6_totalOf_34 : decode cX6_totalOf 34 = .ok (.ifCond .eq 7, 3) := by decide +kernel
theorem dX6_totalOf_37 : decode cX6_totalOf 37 = .ok (.iconst 1, 1) := by decide +kernel
theorem dX6_totalOf_38 : decode cX6_totalOf 38 = .ok (.goto 4, 3) := by decide +kernel
theorem dX6_totalOf_41 : decode cX6_totalOf 41 = .ok (.iconst 0, 1) := by decide +kernel
theorem dX6_totalOf_42 : decode cX6_totalOf 42 = .ok (.iadd, 1) := by decide +kernel
theorem dX6_totalOf_43 : decode cX6_totalOf 43 = .ok (.istore_n 2, 1) := by decide +kernel
theorem dX6_totalOf_44 : decode cX6_totalOf 44 = .ok (.goto 25, 3) := by decide +kernel
theorem dX6_totalOf_47 : decode cX6_totalOf 47 = .ok (.iload_n 2, 1) := by decide +kernel
theorem dX6_totalOf_48 : decode cX6_totalOf 48 = .ok (.iload_n 1, 1) := by decide +kernel
theorem dX6_totalOf_49 : decode cX6_totalOf 49 = .ok (.ifCond .ne 12, 3) := by decide +kernel
theorem dX6_totalOf_52 : decode cX6_totalOf 52 = .ok (.aload_n 0, 1) := by decide +kernel
theorem dX6_totalOf_53 : decode cX6_totalOf 53 = .ok (.getfield 19, 3) := by decide +kernel
theorem dX6_totalOf_56 : decode cX6_totalOf 56 = .ok (.iload_n 3, 1) := by decide +kernel
theorem dX6_totalOf_57 : decode cX6_totalOf 57 = .ok (.iaload, 1) := by decide +kernel
theorem dX6_totalOf_58 : decode cX6_totalOf 58 = .ok (.goto 9, 3) := by decide +kernel
theorem dX6_totalOf_61 : decode cX6_totalOf 61 = .ok (.aload_n 0, 1) := by decide +kernel
theorem dX6_totalOf_62 : decode cX6_totalOf 62 = .ok (.getfield 23, 3) := by decide +kernel
theorem dX6_totalOf_65 : decode cX6_totalOf 65 = .ok (.iload_n 3, 1) := by decide +kernel
theorem dX6_totalOf_66 : decode cX6_totalOf 66 = .ok (.iaload, 1) := by decide +kernel
theorem dX6_totalOf_67 : decode cX6_totalOf 67 = .ok (.iadd, 1) := by decide +kernel
theorem dX6_totalOf_68 : decode cX6_totalOf 68 = .ok (.istore_n 2, 1) := by decide +kernel
theorem dX6_totalOf_69 : decode cX6_totalOf 69 = .ok (.iinc 3 1, 3) := by decide +kernel
theorem dX6_totalOf_72 : decode cX6_totalOf 72 = .ok (.goto (-58), 3) := by decide +kernel
theorem dX6_totalOf_75 : decode cX6_totalOf 75 = .ok (.iload_n 2, 1) := by decide +kernel
theorem dX6_totalOf_76 : decode cX6_totalOf 76 = .ok (.ireturn, 1) := by decide +kernel
theorem dX6_vanish_0 : decode cX6_vanish 0 = .ok (.aload_n 0, 1) := by decide +kernel
theorem dX6_vanish_1 : decode cX6_vanish 1 = .ok (.getfield 15, 3) := by decide +kernel
theorem dX6_vanish_4 : decode cX6_vanish 4 = .ok (.istore_n 1, 1) := by decide +kernel
theorem dX6_vanish_5 : decode cX6_vanish 5 = .ok (.aload_n 0, 1) := by decide +kernel
theorem dX6_vanish_6 : decode cX6_vanish 6 = .ok (.iconst 0, 1) := by decide +kernel
theorem dX6_vanish_7 : decode cX6_vanish 7 = .ok (.putfield 9, 3) := by decide +kernel
theorem dX6_vanish_10 : decode cX6_vanish 10 = .ok (.aload_n 0, 1) := by decide +kernel
theorem dX6_vanish_11 : decode cX6_vanish 11 = .ok (.iconst 0, 1) := by decide +kernel
theorem dX6_vanish_12 : decode cX6_vanish 12 = .ok (.putfield 15, 3) := by decide +kernel
theorem dX6_vanish_15 : decode cX6_vanish 15 = .ok (.iload_n 1, 1) := by decide +kernel
theorem dX6_vanish_16 : decode cX6_vanish 16 = .ok (.ireturn, 1) := by decide +kernel
theorem dX7_init_0 : decode cX7_init 0 = .ok (.aload_n 0, 1) := by decide +kernel
theorem dX7_init_1 : decode cX7_init 1 = .ok (.invokespecial 3, 3) := by decide +kernel
theorem dX7_init_4 : decode cX7_init 4 = .ok (.aload_n 0, 1) := by decide +kernel
theorem dX7_init_5 : decode cX7_init 5 = .ok (.sipush 200, 3) := by decide +kernel
theorem dX7_init_8 : decode cX7_init 8 = .ok (.newarray .int, 2) := by decide +kernel
theorem dX7_init_10 : decode cX7_init 10 = .ok (.putfield 11, 3) := by decide +kernel
theorem dX7_init_13 : decode cX7_init 13 = .ok (.aload_n 0, 1) := by decide +kernel
theorem dX7_init_14 : decode cX7_init 14 = .ok (.iconst 0, 1) := by decide +kernel
theorem dX7_init_15 : decode cX7_init 15 = .ok (.putfield 15, 3) := by decide +kernel
theorem dX7_init_18 : decode cX7_init 18 = .ok (.aload_n 0, 1) := by decide +kernel
theorem dX7_init_19 : decode cX7_init 19 = .ok (.iconst 0, 1) := by decide +kernel
theorem dX7_init_20 : decode cX7_init 20 = .ok (.putfield 19, 3) := by decide +kernel
theorem dX7_init_23 : decode cX7_init 23 = .ok (.aload_n 0, 1) := by decide +kernel
theorem dX7_init_24 : decode cX7_init 24 = .ok (.iconst 0, 1) := by decide +kernel
theorem dX7_init_25 : decode cX7_init 25 = .ok (.putfield 22, 3) := by decide +kernel
theorem dX7_init_28 : decode cX7_init 28 = .ok (.aload_n 0, 1) := by decide +kernel
theorem dX7_init_29 : decode cX7_init 29 = .ok (.iconst 0, 1) := by decide +kernel
theorem dX7_init_30 : decode cX7_init 30 = .ok (.putfield 25, 3) := by decide +kernel
theorem dX7_init_33 : decode cX7_init 33 = .ok (.aload_n 0, 1) := by decide +kernel
theorem dX7_init_34 : decode cX7_init 34 = .ok (.iconst 0, 1) := by decide +kernel
theorem dX7_init_35 : decode cX7_init 35 = .ok (.putfield 28, 3) := by decide +kernel
theorem dX7_init_38 : decode cX7_init 38 = .ok (.aload_n 0, 1) := by decide +kernel
theorem dX7_init_39 : decode cX7_init 39 = .ok (.iconst 4, 1) := by decide +kernel
theorem dX7_init_40 : decode cX7_init 40 = .ok (.newarray .int, 2) := by decide +kernel
theorem dX7_init_42 : decode cX7_init 42 = .ok (.putfield 31, 3) := by decide +kernel
theorem dX7_init_45 : decode cX7_init 45 = .ok (.return_, 1) := by decide +kernel
theorem dX7_append_0 : decode cX7_append 0 = .ok (.aload_n 0, 1) := by decide +kernel
theorem dX7_append_1 : decode cX7_append 1 = .ok (.getfield 15, 3) := by decide +kernel
theorem dX7_append_4 : decode cX7_append 4 = .ok (.sipush 200, 3) := by decide +kernel
theorem dX7_append_7 : decode cX7_append 7 = .ok (.if_icmp .lt 5, 3) := by decide +kernel
theorem dX7_append_10 : decode cX7_append 10 = .ok (.iconst 0, 1) := by decide +kernel
theorem dX7_append_11 : decode cX7_append 11 = .ok (.ireturn, 1) := by decide +kernel
theorem dX7_append_12 : decode cX7_append 12 = .ok (.aload_n 0, 1) := by decide +kernel
theorem dX7_append_13 : decode cX7_append 13 = .ok (.getfield 11, 3) := by decide +kernel
theorem dX7_append_16 : decode cX7_append 16 = .ok (.aload_n 0, 1) := by decide +kernel
theorem dX7_append_17 : decode cX7_append 17 = .ok (.getfield 15, 3) := by decide +kernel
theorem dX7_append_20 : decode cX7_append 20 = .ok (.iload_n 1, 1) := by decide +kernel
theorem dX7_append_21 : decode cX7_append 21 = .ok (.iastore, 1) := by decide +kernel
theorem dX7_append_22 : decode cX7_append 22 = .ok (.aload_n 0, 1) := by decide +kernel
theorem dX7_append_23 : decode cX7_append 23 = .ok (.dup, 1) := by decide +kernel
theorem dX7_append_24 : decode cX7_append 24 = .ok (.getfield 15, 3) := by decide +kernel
theorem dX7_append_27 : decode cX7_append 27 = .ok (.iconst 1, 1) := by decide +kernel
theorem dX7_append_28 : decode cX7_append 28 = .ok (.iadd, 1) := by decide +kernel
theorem dX7_append_29 : decode cX7_append 29 = .ok (.putfield 15, 3) := by decide +kernel
theorem dX7_append_32 : decode cX7_append 32 = .ok (.iconst 1, 1) := by decide +kernel
theorem dX7_append_33 : decode cX7_append 33 = .ok (.ireturn, 1) := by decide +kernel
set_option maxRecDepth 20000 in
theorem ggX7_readInto_X7_readClause : GoodIn wsX7_readInto wsX7_readClause := goodIn_r _ [9, 10, 11, 12, 13, 14, 15, 8, 16, 1, 3, 17, 18, 4, 19, 20, 21, 22, 23, 24, 25, 26, 27, 28, 29, 30, 31, 32, 33, 34, 35, 36, 37, 38, 39, 40, 41, 42, 43, 44, 45, 46, 47, 48, 49, 50, 51, 52, 53, 54, 55, 56, 57, 58, 59, 60, 61, 62, 63, 64, 65, 66, 67, 68, 69, 70, 71, 72, 73, 74, 75, 76, 77, 78, 79, 80, 81, 82, 83, 84, 85, 86, 87, 88, 89, 90, 91, 92, 93, 94, 95, 96, 97, 98, 99, 100, 101, 102, 103, 104, 105, 106, 107, 112, 113, 114, 115, 116, 117, 118, 119, 120, 121, 122, 123] (by decide +kernel) (by decide +kernel)
set_option maxRecDepth 20000 in
theorem gX7_readInto_X7_readClause : GoodIn wsX7_readInto (wsV RX7 34 RX7 yX7_readClause wsX7_readClause) := goodIn_app (goodIn_of _ (by decide +kernel)) ggX7_readInto_X7_readClause
set_option maxRecDepth 20000 in
theorem ggX7_readInto_X7_step : GoodIn wsX7_readInto wsX7_step := goodIn_r _ [16, 1, 3, 17, 18, 4, 19, 20, 8, 21, 112, 113, 114, 115, 116, 117, 118] (by decide +kernel) (by decide +kernel)
set_option maxRecDepth 20000 in
theorem gX7_readInto_X7_step : GoodIn wsX7_readInto (wsV RX7 38 RX7 yX7_step wsX7_step) := goodIn_app (goodIn_of _ (by decide +kernel)) ggX7_readInto_X7_step
set_option maxRecDepth 20000 in
theorem ggX7_readInto_X7_isSemicolon : GoodIn wsX7_readInto wsX7_isSemicolon := goodIn_r _ [111, 4, 18, 3, 112, 113, 114, 115, 116, 117, 118] (by decide +kernel) (by decide +kernel)
set_option maxRecDepth 20000 in
theorem gX7_readInto_X7_isSemicolon : GoodIn wsX7_readInto (wsV RX7 41 RX7 yX7_isSemicolon wsX7_isSemicolon) := goodIn_app (goodIn_of _ (by decide +kernel)) ggX7_readInto_X7_isSemicolon
theorem dX7_readInto_0 : decode cX7_readInto 0 = .ok (.aload_n 0, 1) := by decide +kernel
theorem dX7_readInto_1 : decode cX7_readInto 1 = .ok (.iconst 0, 1) := by decide +kernel
theorem dX7_readInto_2 : decode cX7_readInto 2 = .ok (.putfield 28, 3) := by decide +kernel
theorem dX7_readInto_5 : decode cX7_readInto 5 = .ok (.iconst 1, 1) := by decide +kernel
theorem dX7_readInto_6 : decode cX7_readInto 6 = .ok (.istore_n 2, 1) := by decide +kernel
theorem dX7_readInto_7 : decode cX7_readInto 7 = .ok (.aload_n 0, 1) := by decide +kernel
theorem dX7_readInto_8 : decode cX7_readInto 8 = .ok (.iconst 0, 1) := by decide +kernel
theorem dX7_readInto_9 : decode cX7_readInto 9 = .ok (.putfield 19, 3) := by decide +kernel
theorem dX7_readInto_12 : decode cX7_readInto 12 = .ok (.iload_n 2, 1) := by decide +kernel
theorem dX7_readInto_13 : decode cX7_readInto 13 = .ok (.ifCond .eq 47, 3) := by decide +kernel
theorem dX7_readInto_16 : decode cX7_readInto 16 = .ok (.aload_n 0, 1) := by decide +kernel
theorem dX7_readInto_17 : decode cX7_readInto 17 = .ok (.getfield 19, 3) := by decide +kernel
theorem dX7_readInto_20 : decode cX7_readInto 20 = .ok (.bipush 24, 2) := by decide +kernel
theorem dX7_readInto_22 : decode cX7_readInto 22 = .ok (.if_icmp .ge 38, 3) := by decide +kernel
theorem dX7_readInto_25 : decode cX7_readInto 25 = .ok (.aload_n 0, 1) := by decide +kernel
theorem dX7_readInto_26 : decode cX7_readInto 26 = .ok (.aload_n 1, 1) := by decide +kernel
theorem dX7_readInto_27 : decode cX7_readInto 27 = .ok (.invokevirtual 34, 3) := by decide +kernel
theorem dX7_readInto_30 : decode cX7_readInto 30 = .ok (.ifCond .ne 8, 3) := by decide +kernel
theorem dX7_readInto_33 : decode cX7_readInto 33 = .ok (.aload_n 0, 1) := by decide +kernel
theorem dX7_readInto_34 : decode cX7_readInto 34 = .ok (.getfield 25, 3) := by decide +kernel
theorem dX7_readInto_37 : decode cX7_readInto 37 = .ok (.ireturn, 1) := by decide +kernel
theorem dX7_readInto_38 : decode cX7_readInto 38 = .ok (.aload_n 0, 1) := by decide +kernel
theorem dX7_readInto_39 : decode cX7_readInto 39 = .ok (.invokevirtual 38, 3) := by decide +kernel
theorem dX7_readInto_42 : decode cX7_readInto 42 = .ok (.aload_n 0, 1) := by decide +kernel
theorem dX7_readInto_43 : decode cX7_readInto 43 = .ok (.invokevirtual 41, 3) := by decide +kernel
theorem dX7_readInto_46 : decode cX7_readInto 46 = .ok (.istore_n 2, 1) := by decide +kernel
theorem dX7_readInto_47 : decode cX7_readInto 47 = .ok (.aload_n 0, 1) := by decide +kernel
theorem dX7_readInto_48 : decode cX7_readInto 48 = .ok (.dup, 1) := by decide +kernel
theorem dX7_readInto_49 : decode cX7_readInto 49 = .ok (.getfield 19, 3) := by decide +kernel
theorem dX7_readInto_52 : decode cX7_readInto 52 = .ok (.iconst 1, 1) := by decide +kernel
theorem dX7_readInto_53 : decode cX7_readInto 53 = .ok (.iadd, 1) := by decide +kernel
theorem dX7_readInto_54 : decode cX7_readInto 54 = .ok (.putfield 19, 3) := by decide +kernel
theorem dX7_readInto_57 : decode cX7_readInto 57 = .ok (.goto (-45), 3) := by decide +kernel
theorem dX7_readInto_60 : decode cX7_readInto 60 = .ok (.aload_n 0, 1) := by decide +kernel
theorem dX7_readInto_61 : decode cX7_readInto 61 = .ok (.getfield 22, 3) := by decide +kernel
theorem dX7_readInto_64 : decode cX7_readInto 64 = .ok (.ifCond .ne 7, 3) := by decide +kernel
theorem dX7_readInto_67 : decode cX7_readInto 67 = .ok (.iconst (-1), 1) := by decide +kernel
theorem dX7_readInto_68 : decode cX7_readInto 68 = .ok (.goto 7, 3) := by decide +kernel
theorem dX7_readInto_71 : decode cX7_readInto 71 = .ok (.aload_n 0, 1) := by decide +kernel
theorem dX7_readInto_72 : decode cX7_readInto 72 = .ok (.getfield 25, 3) := by decide +kernel
theorem dX7_readInto_75 : decode cX7_readInto 75 = .ok (.ireturn, 1) := by decide +kernel
set_option maxRecDepth 20000 in
theorem ggX7_readClause_X7_step : GoodIn wsX7_readClause wsX7_step := goodIn_r _ [8, 9, 10, 11, 12, 13, 14, 15, 7, 16, 103, 104, 105, 106, 107, 108, 109] (by decide +kernel) (by decide +kernel)
set_option maxRecDepth 20000 in
theorem gX7_readClause_X7_step : GoodIn wsX7_readClause (wsV RX7 38 RX7 yX7_step wsX7_step) := goodIn_app (goodIn_of _ (by decide +kernel)) ggX7_readClause_X7_step
set_option maxRecDepth 20000 in
theorem ggX7_readClause_X7_isWord : GoodIn wsX7_readClause wsX7_isWord := goodIn_r _ [20, 13, 9, 10, 12, 21, 22, 23, 24, 25, 26, 27, 28, 29, 30, 31, 32, 33, 34, 35, 36, 37, 38, 39, 40, 41, 42, 43, 44, 45, 46, 47, 48, 49, 50, 51, 52, 53, 54, 55, 56, 57, 58, 59, 60, 61, 62, 63, 64, 65, 66, 67, 68, 69, 103, 104, 105, 106, 107, 108, 109] (by decide +kernel) (by decide +kernel)
set_option maxRecDepth 20000 in
theorem gX7_readClause_X7_isWord : GoodIn wsX7_readClause (wsV RX7 47 RX7 yX7_isWord wsX7_isWord) := goodIn_app (goodIn_of _ (by decide +kernel)) ggX7_readClause_X7_isWord
set_option maxRecDepth 20000 in
theorem ggX7_readClause_X7_readNumber : GoodIn wsX7_readClause wsX7_readNumber := goodIn_r _ [73, 13, 9, 10, 12, 1, 4, 5, 6, 7, 8, 11, 14, 15, 16, 103, 104, 105, 106, 107, 108, 109] (by decide +kernel) (by decide +kernel)
set_option maxRecDepth 20000 in
theorem gX7_readClause_X7_readNumber : GoodIn wsX7_readClause (wsV RX7 51 RX7 yX7_readNumber wsX7_readNumber) := goodIn_app (goodIn_of _ (by decide +kernel)) ggX7_readClause_X7_readNumber
set_option maxRecDepth 20000 in
theorem ggX7_readClause_X2_restart : GoodIn wsX7_readClause wsX2_restart := goodIn_r _ [78, 79, 80, 81, 82, 83, 77, 84, 85, 86, 87, 88, 89, 90, 91, 92, 93, 94, 95, 110, 111, 112, 113, 114] (by decide +kernel) (by decide +kernel)
set_option maxRecDepth 20000 in
theorem gX7_readClause_X2_restart : GoodIn wsX7_readClause (wsV RX7 55 RX2 yX2_restart wsX2_restart) := goodIn_app (goodIn_of _ (by decide +kernel)) ggX7_readClause_X2_restart
set_option maxRecDepth 20000 in
theorem ggX7_readClause_X7_readOhms : GoodIn wsX7_readClause wsX7_readOhms := goodIn_r _ [99, 70, 71, 72, 7, 73, 13, 9, 10, 12, 1, 4, 5, 6, 8, 11, 14, 15, 16, 103, 104, 105, 106, 107, 108, 109] (by decide +kernel) (by decide +kernel)
set_option maxRecDepth 20000 in
theorem gX7_readClause_X7_readOhms : GoodIn wsX7_readClause (wsV RX7 63 RX7 yX7_readOhms wsX7_readOhms) := goodIn_app (goodIn_of _ (by decide +kernel)) ggX7_readClause_X7_readOhms
set_option maxRecDepth 20000 in
theorem ggX7_readClause_X2_resist : GoodIn wsX7_readClause wsX2_resist := goodIn_r _ [94, 95, 110, 111, 112, 113, 114] (by decide +kernel) (by decide +kernel)
set_option maxRecDepth 20000 in
theorem gX7_readClause_X2_resist : GoodIn wsX7_readClause (wsV RX7 66 RX2 yX2_resist wsX2_resist) := goodIn_app (goodIn_of _ (by decide +kernel)) ggX7_readClause_X2_resist
set_option maxRecDepth 20000 in
theorem ggX7_readClause_X2_isFull : GoodIn wsX7_readClause wsX2_isFull := goodIn_r _ [90, 80, 110, 111, 112, 113, 114] (by decide +kernel) (by decide +kernel)
set_option maxRecDepth 20000 in
theorem gX7_readClause_X2_isFull : GoodIn wsX7_readClause (wsV RX7 72 RX2 yX2_isFull wsX2_isFull) := goodIn_app (goodIn_of _ (by decide +kernel)) ggX7_readClause_X2_isFull
set_option maxRecDepth 20000 in
theorem ggX7_readClause_X2_hang : GoodIn wsX7_readClause wsX2_hang := goodIn_r _ [84, 85, 80, 86, 87, 88, 89, 77, 90, 91, 92, 93, 94, 95, 110, 111, 112, 113, 114] (by decide +kernel) (by decide +kernel)
set_option maxRecDepth 20000 in
theorem gX7_readClause_X2_hang : GoodIn wsX7_readClause (wsV RX7 78 RX2 yX2_hang wsX2_hang) := goodIn_app (goodIn_of _ (by decide +kernel)) ggX7_readClause_X2_hang
theorem dX7_readClause_0 : decode cX7_readClause 0 = .ok (.aload_n 0, 1) := by decide +kernel
theorem dX7_readClause_1 : decode cX7_readClause 1 = .ok (.invokevirtual 38, 3) := by decide +kernel
theorem dX7_readClause_4 : decode cX7_readClause 4 = .ok (.aload_n 0, 1) := by decide +kernel
theorem dX7_readClause_5 : decode cX7_readClause 5 = .ok (.ldc 45, 2) := by decide +kernel
theorem dX7_readClause_7 : decode cX7_readClause 7 = .ok (.invokevirtual 47, 3) := by decide +kernel
theorem dX7_readClause_10 : decode cX7_readClause 10 = .ok (.ifCond .eq 29, 3) := by decide +kernel
theorem dX7_readClause_13 : decode cX7_readClause 13 = .ok (.aload_n 0, 1) := by decide +kernel
theorem dX7_readClause_14 : decode cX7_readClause 14 = .ok (.iconst 0, 1) := by decide +kernel
theorem dX7_readClause_15 : decode cX7_readClause 15 = .ok (.iconst 1, 1) := by decide +kernel
theorem dX7_readClause_16 : decode cX7_readClause 16 = .ok (.bipush 99, 2) := by decide +kernel
theorem dX7_readClause_18 : decode cX7_readClause 18 = .ok (.invokevirtual 51, 3) := by decide +kernel
theorem dX7_readClause_21 : decode cX7_readClause 21 = .ok (.ifCond .ne 5, 3) := by decide +kernel
theorem dX7_readClause_24 : decode cX7_readClause 24 = .ok (.iconst 0, 1) := by decide +kernel
theorem dX7_readClause_25 : decode cX7_readClause 25 = .ok (.ireturn, 1) := by decide +kernel
theorem dX7_readClause_26 : decode cX7_readClause 26 = .ok (.aload_n 1, 1) := by decide +kernel
theorem dX7_readClause_27 : decode cX7_readClause 27 = .ok (.aload_n 0, 1) := by decide +kernel
theorem dX7_readClause_28 : decode cX7_readClause 28 = .ok (.getfield 31, 3) := by decide +kernel
theorem dX7_readClause_31 : decode cX7_readClause 31 = .ok (.iconst 0, 1) := by decide +kernel
theorem dX7_readClause_32 : decode cX7_readClause 32 = .ok (.iaload, 1) := by decide +kernel
theorem dX7_readClause_33 : decode cX7_readClause 33 = .ok (.invokevirtual 55, 3) := by decide +kernel
theorem dX7_readClause_36 : decode cX7_readClause 36 = .ok (.goto 178, 3) := by decide +kernel
theorem dX7_readClause_39 : decode cX7_readClause 39 = .ok (.aload_n 0, 1) := by decide +kernel
theorem dX7_readClause_40 : decode cX7_readClause 40 = .ok (.ldc 61, 2) := by decide +kernel
theorem dX7_readClause_42 : decode cX7_readClause 42 = .ok (.invokevirtual 47, 3) := by decide +kernel
theorem dX7_readClause_45 : decode cX7_readClause 45 = .ok (.ifCond .eq 38, 3) := by decide +kernel
theorem dX7_readClause_48 : decode cX7_readClause 48 = .ok (.aload_n 0, 1) := by decide +kernel
theorem dX7_readClause_49 : decode cX7_readClause 49 = .ok (.invokevirtual 63, 3) := by decide +kernel
theorem dX7_readClause_52 : decode cX7_readClause 52 = .ok (.ifCond .ne 5, 3) := by decide +kernel
theorem dX7_readClause_55 : decode cX7_readClause 55 = .ok (.iconst 0, 1) := by decide +kernel
theorem dX7_readClause_56 : decode cX7_readClause 56 = .ok (.ireturn, 1) := by decide +kernel
theorem dX7_readClause_57 : decode cX7_readClause 57 = .ok (.aload_n 1, 1) := by decide +kernel
theorem dX7_readClause_58 : decode cX7_readClause 58 = .ok (.iconst 0, 1) := by decide +kernel
theorem dX7_readClause_59 : decode cX7_readClause 59 = .ok (.aload_n 0, 1) := by decide +kernel
theorem dX7_readClause_60 : decode cX7_readClause 60 = .ok (.getfield 31, 3) := by decide +kernel
theorem dX7_readClause_63 : decode cX7_readClause 63 = .ok (.iconst 1, 1) := by decide +kernel
theorem dX7_readClause_64 : decode cX7_readClause 64 = .ok (.iaload, 1) := by decide +kernel
theorem dX7_readClause_65 : decode cX7_readClause 65 = .ok (.aload_n 0, 1) := by decide +kernel
theorem dX7_readClause_66 : decode cX7_readClause 66 = .ok (.getfield 31, 3) := by decide +kernel
theorem dX7_readClause_69 : decode cX7_readClause 69 = .ok (.iconst 2, 1) := by decide +kernel
theorem dX7_readClause_70 : decode cX7_readClause 70 = .ok (.iaload, 1) := by decide +kernel
theorem dX7_readClause_71 : decode cX7_readClause 71 = .ok (.aload_n 0, 1) := by decide +kernel
theorem dX7_readClause_72 : decode cX7_readClause 72 = .ok (.getfield 31, 3) := by decide +kernel
theorem dX7_readClause_75 : decode cX7_readClause 75 = .ok (.iconst 3, 1) := by decide +kernel
theorem dX7_readClause_76 : decode cX7_readClause 76 = .ok (.iaload, 1) := by decide +kernel
theorem dX7_readClause_77 : decode cX7_readClause 77 = .ok (.invokevirtual 66, 3) := by decide +kernel
theorem dX7_readClause_80 : decode cX7_readClause 80 = .ok (.goto 134, 3) := by decide +kernel
theorem dX7_readClause_83 : decode cX7_readClause 83 = .ok (.aload_n 0, 1) := by decide +kernel
theorem dX7_readClause_84 : decode cX7_readClause 84 = .ok (.ldc 70, 2) := by decide +kernel
theorem dX7_readClause_86 : decode cX7_readClause 86 = .ok (.invokevirtual 47, 3) := by decide +kernel
theorem dX7_readClause_89 : decode cX7_readClause 89 = .ok (.ifCond .eq 65, 3) := by decide +kernel
theorem dX7_readClause_92 : decode cX7_readClause 92 = .ok (.aload_n 1, 1) := by decide +kernel
theorem dX7_readClause_93 : decode cX7_readClause 93 = .ok (.invokevirtual 72, 3) := by decide +kernel
theorem dX7_readClause_96 : decode cX7_readClause 96 = .ok (.ifCond .ne 25, 3) := by decide +kernel
theorem dX7_readClause_99 : decode cX7_readClause 99 = .ok (.aload_n 0, 1) := by decide +kernel
theorem dX7_readClause_100 : decode cX7_readClause 100 = .ok (.iconst 0, 1) := by decide +kernel
theorem dX7_readClause_101 : decode cX7_readClause 101 = .ok (.iconst 0, 1) := by decide +kernel
theorem dX7_readClause_102 : decode cX7_readClause 102 = .ok (.aload_n 1, 1) := by decide +kernel
theorem dX7_readClause_103 : decode cX7_readClause 103 = .ok (.getfield 75, 3) := by decide +kernel
theorem dX7_readClause_106 : decode cX7_readClause 106 = .ok (.iconst 1, 1) := by decide +kernel
theorem dX7_readClause_107 : decode cX7_readClause 107 = .ok (.isub, 1) := by decide +kernel
theorem dX7_readClause_108 : decode cX7_readClause 108 = .ok (.invokevirtual 51, 3) := by decide +kernel
theorem dX7_readClause_111 : decode cX7_readClause 111 = .ok (.ifCond .eq 10, 3) := by decide +kernel
theorem dX7_readClause_114 : decode cX7_readClause 114 = .ok (.aload_n 0, 1) := by decide +kernel
theorem dX7_readClause_115 : decode cX7_readClause 115 = .ok (.invokevirtual 63, 3) := by decide +kernel
theorem dX7_readClause_118 : decode cX7_readClause 118 = .ok (.ifCond .ne 5, 3) := by decide +kernel
theorem dX7_readClause_121 : decode cX7_readClause 121 = .ok (.iconst 0, 1) := by decide +kernel
theorem dX7_readClause_122 : decode cX7_readClause 122 = .ok (.ireturn, 1) := by decide +kernel
theorem dX7_readClause_123 : decode cX7_readClause 123 = .ok (.aload_n 1, 1) := by decide +kernel
theorem dX7_readClause_124 : decode cX7_readClause 124 = .ok (.aload_n 0, 1) := by decide +kernel
theorem dX7_readClause_125 : decode cX7_readClause 125 = .ok (.getfield 31, 3) := by decide +kernel
theorem dX7_readClause_128 : decode cX7_readClause 128 = .ok (.iconst 0, 1) := by decide +kernel
theorem dX7_readClause_129 : decode cX7_readClause 129 = .ok (.iaload, 1) := by decide +kernel
theorem dX7_readClause_130 : decode cX7_readClause 130 = .ok (.aload_n 0, 1) := by decide +kernel
theorem dX7_readClause_131 : decode cX7_readClause 131 = .ok (.getfield 31, 3) := by decide +kernel
theorem dX7_readClause_134 : decode cX7_readClause 134 = .ok (.iconst 1, 1) := by decide +kernel
theorem dX7_readClause_135 : decode cX7_readClause 135 = .ok (.iaload, 1) := by decide +kernel
theorem dX7_readClause_136 : decode cX7_readClause 136 = .ok (.aload_n 0, 1) := by decide +kernel
theorem dX7_readClause_137 : decode cX7_readClause 137 = .ok (.getfield 31, 3) := by decide +kernel
theorem dX7_readClause_140 : decode cX7_readClause 140 = .ok (.iconst 2, 1) := by decide +kernel
theorem dX7_readClause_141 : decode cX7_readClause 141 = .ok (.iaload, 1) := by decide +kernel
theorem dX7_readClause_142 : decode cX7_readClause 142 = .ok (.aload_n 0, 1) := by decide +kernel
theorem dX7_readClause_143 : decode cX7_readClause 143 = .ok (.getfield 31, 3) := by decide +kernel
theorem dX7_readClause_146 : decode cX7_readClause 146 = .ok (.iconst 3, 1) := by decide +kernel
theorem dX7_readClause_147 : decode cX7_readClause 147 = .ok (.iaload, 1) := by decide +kernel
theorem dX7_readClause_148 : decode cX7_readClause 148 = .ok (.invokevirtual 78, 3) := by decide +kernel
theorem dX7_readClause_151 : decode cX7_readClause 151 = .ok (.goto 63, 3) := by decide +kernel
theorem dX7_readClause_154 : decode cX7_readClause 154 = .ok (.aload_n 0, 1) := by decide +kernel
theorem dX7_readClause_155 : decode cX7_readClause 155 = .ok (.ldc 81, 2) := by decide +kernel
theorem dX7_readClause_157 : decode cX7_readClause 157 = .ok (.invokevirtual 47, 3) := by decide +kernel
theorem dX7_readClause_160 : decode cX7_readClause 160 = .ok (.ifCond .eq 52, 3) := by decide +kernel
theorem dX7_readClause_163 : decode cX7_readClause 163 = .ok (.aload_n 0, 1) := by decide +kernel
theorem dX7_readClause_164 : decode cX7_readClause 164 = .ok (.iconst 0, 1) := by decide +kernel
theorem dX7_readClause_165 : decode cX7_readClause 165 = .ok (.iconst 1, 1) := by decide +kernel
theorem dX7_readClause_166 : decode cX7_readClause 166 = .ok (.aload_n 1, 1) := by decide +kernel
theorem dX7_readClause_167 : decode cX7_readClause 167 = .ok (.getfield 75, 3) := by decide +kernel
theorem dX7_readClause_170 : decode cX7_readClause 170 = .ok (.iconst 1, 1) := by decide +kernel
theorem dX7_readClause_171 : decode cX7_readClause 171 = .ok (.isub, 1) := by decide +kernel
theorem dX7_readClause_172 : decode cX7_readClause 172 = .ok (.invokevirtual 51, 3) := by decide +kernel
theorem dX7_readClause_175 : decode cX7_readClause 175 = .ok (.ifCond .eq 15, 3) := by decide +kernel
theorem dX7_readClause_178 : decode cX7_readClause 178 = .ok (.aload_n 0, 1) := by decide +kernel
theorem dX7_readClause_179 : decode cX7_readClause 179 = .ok (.iconst 1, 1) := by decide +kernel
theorem dX7_readClause_180 : decode cX7_readClause 180 = .ok (.iconst 0, 1) := by decide +kernel
theorem dX7_readClause_181 : decode cX7_readClause 181 = .ok (.sipush 999, 3) := by decide +kernel
theorem dX7_readClause_184 : decode cX7_readClause 184 = .ok (.invokevirtual 51, 3) := by decide +kernel
theorem dX7_readClause_187 : decode cX7_readClause 187 = .ok (.ifCond .ne 5, 3) := by decide +kernel
theorem dX7_readClause_190 : decode cX7_readClause 190 = .ok (.iconst 0, 1) := by decide +kernel
theorem dX7_readClause_191 : decode cX7_readClause 191 = .ok (.ireturn, 1) := by decide +kernel
theorem dX7_readClause_192 : decode cX7_readClause 192 = .ok (.aload_n 1, 1) := by decide +kernel
theorem dX7_readClause_193 : decode cX7_readClause 193 = .ok (.getfield 83, 3) := by decide +kernel
theorem dX7_readClause_196 : decode cX7_readClause 196 = .ok (.aload_n 0, 1) := by decide +kernel
theorem dX7_readClause_197 : decode cX7_readClause 197 = .ok (.getfield 31, 3) := by decide +kernel
theorem dX7_readClause_200 : decode cX7_readClause 200 = .ok (.iconst 0, 1) := by decide +kernel
theorem dX7_readClause_201 : decode cX7_readClause 201 = .ok (.iaload, 1) := by decide +kernel
theorem dX7_readClause_202 : decode cX7_readClause 202 = .ok (.aload_n 0, 1) := by decide +kernel
theorem dX7_readClause_203 : decode cX7_readClause 203 = .ok (.getfield 31, 3) := by decide +kernel
theorem dX7_readClause_206 : decode cX7_readClause 206 = .ok (.iconst 1, 1) := by decide +kernel
theorem dX7_readClause_207 : decode cX7_readClause 207 = .ok (.iaload, 1) := by decide +kernel
theorem dX7_readClause_208 : decode cX7_readClause 208 = .ok (.iastore, 1) := by decide +kernel
theorem dX7_readClause_209 : decode cX7_readClause 209 = .ok (.goto 5, 3) := by decide +kernel
theorem dX7_readClause_212 : decode cX7_readClause 212 = .ok (.iconst 0, 1) := by decide +kernel
theorem dX7_readClause_213 : decode cX7_readClause 213 = .ok (.ireturn, 1) := by decide +kernel
theorem dX7_readClause_214 : decode cX7_readClause 214 = .ok (.iconst 1, 1) := by decide +kernel
theorem dX7_readClause_215 : decode cX7_readClause 215 = .ok (.ireturn, 1) := by decide +kernel
set_option maxRecDepth 20000 in
theorem ggX7_readOhms_X7_readNumber : GoodIn wsX7_readOhms wsX7_readNumber := goodIn_r _ [5, 6, 7, 8, 9, 10, 11, 12, 13, 4, 14, 15, 16, 17, 18, 19, 20, 21, 22, 23, 24, 25] (by decide +kernel) (by decide +kernel)
set_option maxRecDepth 20000 in
theorem gX7_readOhms_X7_readNumber : GoodIn wsX7_readOhms (wsV RX7 51 RX7 yX7_readNumber wsX7_readNumber) := goodIn_app (goodIn_of _ (by decide +kernel)) ggX7_readOhms_X7_readNumber
theorem dX7_readOhms_0 : decode cX7_readOhms 0 = .ok (.aload_n 0, 1) := by decide +kernel
theorem dX7_readOhms_1 : decode cX7_readOhms 1 = .ok (.iconst 1, 1) := by decide +kernel
theorem dX7_readOhms_2 : decode cX7_readOhms 2 = .ok (.iconst 0, 1) := by decide +kernel
theorem dX7_readOhms_3 : decode cX7_readOhms 3 = .ok (.bipush 9, 2) := by decide +kernel
theorem dX7_readOhms_5 : decode cX7_readOhms 5 = .ok (.invokevirtual 51, 3) := by decide +kernel
theorem dX7_readOhms_8 : decode cX7_readOhms 8 = .ok (.ifCond .eq 29, 3) := by decide +kernel
theorem dX7_readOhms_11 : decode cX7_readOhms 11 = .ok (.aload_n 0, 1) := by decide +kernel
theorem dX7_readOhms_12 : decode cX7_readOhms 12 = .ok (.iconst 2, 1) := by decide +kernel
theorem dX7_readOhms_13 : decode cX7_readOhms 13 = .ok (.iconst 0, 1) := by decide +kernel
theorem dX7_readOhms_14 : decode cX7_readOhms 14 = .ok (.bipush 9, 2) := by decide +kernel
theorem dX7_readOhms_16 : decode cX7_readOhms 16 = .ok (.invokevirtual 51, 3) := by decide +kernel
theorem dX7_readOhms_19 : decode cX7_readOhms 19 = .ok (.ifCond .eq 18, 3) := by decide +kernel
theorem dX7_readOhms_22 : decode cX7_readOhms 22 = .ok (.aload_n 0, 1) := by decide +kernel
theorem dX7_readOhms_23 : decode cX7_readOhms 23 = .ok (.iconst 3, 1) := by decide +kernel
theorem dX7_readOhms_24 : decode cX7_readOhms 24 = .ok (.iconst 0, 1) := by decide +kernel
theorem dX7_readOhms_25 : decode cX7_readOhms 25 = .ok (.bipush 9, 2) := by decide +kernel
theorem dX7_readOhms_27 : decode cX7_readOhms 27 = .ok (.invokevirtual 51, 3) := by decide +kernel
theorem dX7_readOhms_30 : decode cX7_readOhms 30 = .ok (.ifCond .eq 7, 3) := by decide +kernel
theorem dX7_readOhms_33 : decode cX7_readOhms 33 = .ok (.iconst 1, 1) := by decide +kernel
theorem dX7_readOhms_34 : decode cX7_readOhms 34 = .ok (.goto 4, 3) := by decide +kernel
theorem dX7_readOhms_37 : decode cX7_readOhms 37 = .ok (.iconst 0, 1) := by decide +kernel
theorem dX7_readOhms_38 : decode cX7_readOhms 38 = .ok (.ireturn, 1) := by decide +kernel
set_option maxRecDepth 20000 in
theorem ggX7_readNumber_X7_step : GoodIn wsX7_readNumber wsX7_step := goodIn_r _ [10, 2, 3, 11, 4, 1, 12, 13, 9, 14, 15, 16, 17, 18, 19, 20, 21] (by decide +kernel) (by decide +kernel)
set_option maxRecDepth 20000 in
theorem gX7_readNumber_X7_step : GoodIn wsX7_readNumber (wsV RX7 38 RX7 yX7_step wsX7_step) := goodIn_app (goodIn_of _ (by decide +kernel)) ggX7_readNumber_X7_step
theorem dX7_readNumber_0 : decode cX7_readNumber 0 = .ok (.aload_n 0, 1) := by decide +kernel
theorem dX7_readNumber_1 : decode cX7_readNumber 1 = .ok (.invokevirtual 38, 3) := by decide +kernel
theorem dX7_readNumber_4 : decode cX7_readNumber 4 = .ok (.aload_n 0, 1) := by decide +kernel
theorem dX7_readNumber_5 : decode cX7_readNumber 5 = .ok (.getfield 22, 3) := by decide +kernel
theorem dX7_readNumber_8 : decode cX7_readNumber 8 = .ok (.iconst 2, 1) := by decide +kernel
theorem dX7_readNumber_9 : decode cX7_readNumber 9 = .ok (.if_icmp .ne 16, 3) := by decide +kernel
theorem dX7_readNumber_12 : decode cX7_readNumber 12 = .ok (.aload_n 0, 1) := by decide +kernel
theorem dX7_readNumber_13 : decode cX7_readNumber 13 = .ok (.getfield 28, 3) := by decide +kernel
theorem dX7_readNumber_16 : decode cX7_readNumber 16 = .ok (.aload_n 0, 1) := by decide +kernel
theorem dX7_readNumber_17 : decode cX7_readNumber 17 = .ok (.getfield 25, 3) := by decide +kernel
theorem dX7_readNumber_20 : decode cX7_readNumber 20 = .ok (.isub, 1) := by decide +kernel
theorem dX7_readNumber_21 : decode cX7_readNumber 21 = .ok (.iconst 3, 1) := by decide +kernel
theorem dX7_readNumber_22 : decode cX7_readNumber 22 = .ok (.if_icmp .le 5, 3) := by decide +kernel
theorem dX7_readNumber_25 : decode cX7_readNumber 25 = .ok (.iconst 0, 1) := by decide +kernel
theorem dX7_readNumber_26 : decode cX7_readNumber 26 = .ok (.ireturn, 1) := by decide +kernel
theorem dX7_readNumber_27 : decode cX7_readNumber 27 = .ok (.iconst 0, 1) := by decide +kernel
theorem dX7_readNumber_28 : decode cX7_readNumber 28 = .ok (.istore 4, 2) := by decide +kernel
theorem dX7_readNumber_30 : decode cX7_readNumber 30 = .ok (.aload_n 0, 1) := by decide +kernel
theorem dX7_readNumber_31 : decode cX7_readNumber 31 = .ok (.getfield 25, 3) := by decide +kernel
theorem dX7_readNumber_34 : decode cX7_readNumber 34 = .ok (.istore 5, 2) := by decide +kernel
theorem dX7_readNumber_36 : decode cX7_readNumber 36 = .ok (.iload 5, 2) := by decide +kernel
theorem dX7_readNumber_38 : decode cX7_readNumber 38 = .ok (.aload_n 0, 1) := by decide +kernel
theorem dX7_readNumber_39 : decode cX7_readNumber 39 = .ok (.getfield 28, 3) := by decide +kernel
theorem dX7_readNumber_42 : decode cX7_readNumber 42 = .ok (.if_icmp .ge 27, 3) := by decide +kernel
theorem dX7_readNumber_45 : decode cX7_readNumber 45 = .ok (.bipush 10, 2) := by decide +kernel
theorem dX7_readNumber_47 : decode cX7_readNumber 47 = .ok (.iload 4, 2) := by decide +kernel
theorem dX7_readNumber_49 : decode cX7_readNumber 49 = .ok (.imul, 1) := by decide +kernel
theorem dX7_readNumber_50 : decode cX7_readNumber 50 = .ok (.aload_n 0, 1) := by decide +kernel
theorem dX7_readNumber_51 : decode cX7_readNumber 51 = .ok (.getfield 11, 3) := by decide +kernel
theorem dX7_readNumber_54 : decode cX7_readNumber 54 = .ok (.iload 5, 2) := by decide +kernel
theorem dX7_readNumber_56 : decode cX7_readNumber 56 = .ok (.iaload, 1) := by decide +kernel
theorem dX7_readNumber_57 : decode cX7_readNumber 57 = .ok (.iadd, 1) := by decide +kernel
theorem dX7_readNumber_58 : decode cX7_readNumber 58 = .ok (.bipush 48, 2) := by decide +kernel
theorem dX7_readNumber_60 : decode cX7_readNumber 60 = .ok (.isub, 1) := by decide +kernel
theorem dX7_readNumber_61 : decode cX7_readNumber 61 = .ok (.istore 4, 2) := by decide +kernel
theorem dX7_readNumber_63 : decode cX7_readNumber 63 = .ok (.iinc 5 1, 3) := by decide +kernel
theorem dX7_readNumber_66 : decode cX7_readNumber 66 = .ok (.goto (-30), 3) := by decide +kernel
theorem dX7_readNumber_69 : decode cX7_readNumber 69 = .ok (.aload_n 0, 1) := by decide +kernel
theorem dX7_readNumber_70 : decode cX7_readNumber 70 = .ok (.getfield 31, 3) := by decide +kernel
theorem dX7_readNumber_73 : decode cX7_readNumber 73 = .ok (.iload_n 1, 1) := by decide +kernel
theorem dX7_readNumber_74 : decode cX7_readNumber 74 = .ok (.iload 4, 2) := by decide +kernel
theorem dX7_readNumber_76 : decode cX7_readNumber 76 = .ok (.iastore, 1) := by decide +kernel
theorem dX7_readNumber_77 : decode cX7_readNumber 77 = .ok (.iload 4, 2) := by decide +kernel
theorem dX7_readNumber_79 : decode cX7_readNumber 79 = .ok (.iload_n 2, 1) := by decide +kernel
theorem dX7_readNumber_80 : decode cX7_readNumber 80 = .ok (.if_icmp .lt 13, 3) := by decide +kernel
theorem dX7_readNumber_83 : decode cX7_readNumber 83 = .ok (.iload 4, 2) := by decide +kernel
theorem dX7_readNumber_85 : decode cX7_readNumber 85 = .ok (.iload_n 3, 1) := by decide +kernel
theorem dX7_readNumber_86 : decode cX7_readNumber 86 = .ok (.if_icmp .gt 7, 3) := by decide +kernel
theorem dX7_readNumber_89 : decode cX7_readNumber 89 = .ok (.iconst 1, 1) := by decide +kernel
theorem dX7_readNumber_90 : decode cX7_readNumber 90 = .ok (.goto 4, 3) := by decide +kernel
theorem dX7_readNumber_93 : decode cX7_readNumber 93 = .ok (.iconst 0, 1) := by decide +kernel
theorem dX7_readNumber_94 : decode cX7_readNumber 94 = .ok (.ireturn, 1) := by decide +kernel
set_option maxRecDepth 20000 in
theorem ggX7_step_X7_kindOf : GoodIn wsX7_step wsX7_kindOf := goodIn_r _ [9] (by decide +kernel) (by decide +kernel)
set_option maxRecDepth 20000 in
theorem gX7_step_X7_kindOf : GoodIn wsX7_step (va_wsS RX7 86 yX7_kindOf wsX7_kindOf) := goodIn_app (goodIn_of _ (by decide +kernel)) ggX7_step_X7_kindOf
theorem dX7_step_0 : decode cX7_step 0 = .ok (.aload_n 0, 1) := by decide +kernel
theorem dX7_step_1 : decode cX7_step 1 = .ok (.aload_n 0, 1) := by decide +kernel
theorem dX7_step_2 : decode cX7_step 2 = .ok (.getfield 28, 3) := by decide +kernel
theorem dX7_step_5 : decode cX7_step 5 = .ok (.putfield 25, 3) := by decide +kernel
theorem dX7_step_8 : decode cX7_step 8 = .ok (.aload_n 0, 1) := by decide +kernel
theorem dX7_step_9 : decode cX7_step 9 = .ok (.getfield 25, 3) := by decide +kernel
theorem dX7_step_12 : decode cX7_step 12 = .ok (.aload_n 0, 1) := by decide +kernel
theorem dX7_step_13 : decode cX7_step 13 = .ok (.getfield 15, 3) := by decide +kernel
theorem dX7_step_16 : decode cX7_step 16 = .ok (.if_icmp .ge 30, 3) := by decide +kernel
theorem dX7_step_19 : decode cX7_step 19 = .ok (.aload_n 0, 1) := by decide +kernel
theorem dX7_step_20 : decode cX7_step 20 = .ok (.getfield 11, 3) := by decide +kernel
theorem dX7_step_23 : decode cX7_step 23 = .ok (.aload_n 0, 1) := by decide +kernel
theorem dX7_step_24 : decode cX7_step 24 = .ok (.getfield 25, 3) := by decide +kernel
theorem dX7_step_27 : decode cX7_step 27 = .ok (.iaload, 1) := by decide +kernel
theorem dX7_step_28 : decode cX7_step 28 = .ok (.bipush 32, 2) := by decide +kernel
theorem dX7_step_30 : decode cX7_step 30 = .ok (.if_icmp .ne 16, 3) := by decide +kernel
theorem dX7_step_33 : decode cX7_step 33 = .ok (.aload_n 0, 1) := by decide +kernel
theorem dX7_step_34 : decode cX7_step 34 = .ok (.dup, 1) := by decide +kernel
theorem dX7_step_35 : decode cX7_step 35 = .ok (.getfield 25, 3) := by decide +kernel
theorem dX7_step_38 : decode cX7_step 38 = .ok (.iconst 1, 1) := by decide +kernel
theorem dX7_step_39 : decode cX7_step 39 = .ok (.iadd, 1) := by decide +kernel
theorem dX7_step_40 : decode cX7_step 40 = .ok (.putfield 25, 3) := by decide +kernel
theorem dX7_step_43 : decode cX7_step 43 = .ok (.goto (-35), 3) := by decide +kernel
theorem dX7_step_46 : decode cX7_step 46 = .ok (.aload_n 0, 1) := by decide +kernel
theorem dX7_step_47 : decode cX7_step 47 = .ok (.aload_n 0, 1) := by decide +kernel
theorem dX7_step_48 : decode cX7_step 48 = .ok (.getfield 25, 3) := by decide +kernel
theorem dX7_step_51 : decode cX7_step 51 = .ok (.putfield 28, 3) := by decide +kernel
theorem dX7_step_54 : decode cX7_step 54 = .ok (.aload_n 0, 1) := by decide +kernel
theorem dX7_step_55 : decode cX7_step 55 = .ok (.aload_n 0, 1) := by decide +kernel
theorem dX7_step_56 : decode cX7_step 56 = .ok (.getfield 25, 3) := by decide +kernel
theorem dX7_step_59 : decode cX7_step 59 = .ok (.aload_n 0, 1) := by decide +kernel
theorem dX7_step_60 : decode cX7_step 60 = .ok (.getfield 15, 3) := by decide +kernel
theorem dX7_step_63 : decode cX7_step 63 = .ok (.if_icmp .ge 18, 3) := by decide +kernel
theorem dX7_step_66 : decode cX7_step 66 = .ok (.aload_n 0, 1) := by decide +kernel
theorem dX7_step_67 : decode cX7_step 67 = .ok (.getfield 11, 3) := by decide +kernel
theorem dX7_step_70 : decode cX7_step 70 = .ok (.aload_n 0, 1) := by decide +kernel
theorem dX7_step_71 : decode cX7_step 71 = .ok (.getfield 25, 3) := by decide +kernel
theorem dX7_step_74 : decode cX7_step 74 = .ok (.iaload, 1) := by decide +kernel
theorem dX7_step_75 : decode cX7_step 75 = .ok (.invokestatic 86, 3) := by decide +kernel
theorem dX7_step_78 : decode cX7_step 78 = .ok (.goto 4, 3) := by decide +kernel
theorem dX7_step_81 : decode cX7_step 81 = .ok (.iconst 0, 1) := by decide +kernel
theorem dX7_step_82 : decode cX7_step 82 = .ok (.putfield 22, 3) := by decide +kernel
theorem dX7_step_85 : decode cX7_step 85 = .ok (.aload_n 0, 1) := by decide +kernel
theorem dX7_step_86 : decode cX7_step 86 = .ok (.getfield 28, 3) := by decide +kernel
theorem dX7_step_89 : decode cX7_step 89 = .ok (.aload_n 0, 1) := by decide +kernel
theorem dX7_step_90 : decode cX7_step 90 = .ok (.getfield 15, 3) := by decide +kernel
theorem dX7_step_93 : decode cX7_step 93 = .ok (.if_icmp .ge 35, 3) := by decide +kernel
theorem dX7_step_96 : decode cX7_step 96 = .ok (.aload_n 0, 1) := by decide +kernel
theorem dX7_step_97 : decode cX7_step 97 = .ok (.getfield 11, 3) := by decide +kernel
theorem dX7_step_100 : decode cX7_step 100 = .ok (.aload_n 0, 1) := by decide +kernel
theorem dX7_step_101 : decode cX7_step 101 = .ok (.getfield 28, 3) := by decide +kernel
theorem dX7_step_104 : decode cX7_step 104 = .ok (.iaload, 1) := by decide +kernel
theorem dX7_step_105 : decode cX7_step 105 = .ok (.invokestatic 86, 3) := by decide +kernel
theorem dX7_step_108 : decode cX7_step 108 = .ok (.aload_n 0, 1) := by decide +kernel
theorem dX7_step_109 : decode cX7_step 109 = .ok (.getfield 22, 3) := by decide +kernel
theorem dX7_step_112 : decode cX7_step 112 = .ok (.if_icmp .ne 16, 3) := by decide +kernel
theorem dX7_step_115 : decode cX7_step 115 = .ok (.aload_n 0, 1) := by decide +kernel
theorem dX7_step_116 : decode cX7_step 116 = .ok (.dup, 1) := by decide +kernel
theorem dX7_step_117 : decode cX7_step 117 = .ok (.getfield 28, 3) := by decide +kernel
theorem dX7_step_120 : decode cX7_step 120 = .ok (.iconst 1, 1) := by decide +kernel
theorem dX7_step_121 : decode cX7_step 121 = .ok (.iadd, 1) := by decide +kernel
theorem dX7_step_122 : decode cX7_step 122 = .ok (.putfield 28, 3) := by decide +kernel
theorem dX7_step_125 : decode cX7_step 125 = .ok (.goto (-40), 3) := by decide +kernel
theorem dX7_step_128 : decode cX7_step 128 = .ok (.aload_n 0, 1) := by decide +kernel
theorem dX7_step_129 : decode cX7_step 129 = .ok (.getfield 22, 3) := by decide +kernel
theorem dX7_step_132 : decode cX7_step 132 = .ok (.iconst 3, 1) := by decide +kernel
theorem dX7_step_133 : decode cX7_step 133 = .ok (.if_icmp .ne 13, 3) := by decide +kernel
theorem dX7_step_136 : decode cX7_step 136 = .ok (.aload_n 0, 1) := by decide +kernel
theorem dX7_step_137 : decode cX7_step 137 = .ok (.aload_n 0, 1) := by decide +kernel
theorem dX7_step_138 : decode cX7_step 138 = .ok (.getfield 25, 3) := by decide +kernel
theorem dX7_step_141 : decode cX7_step 141 = .ok (.iconst 1, 1) := by decide +kernel
theorem dX7_step_142 : decode cX7_step 142 = .ok (.iadd, 1) := by decide +kernel
theorem dX7_step_143 : decode cX7_step 143 = .ok (.putfield 28, 3) := by decide +kernel
theorem dX7_step_146 : decode cX7_step 146 = .ok (.return_, 1) := by decide +kernel
theorem dX7_kindOf_0 : decode cX7_kindOf 0 = .ok (.iload_n 0, 1) := by decide +kernel
theorem dX7_kindOf_1 : decode cX7_kindOf 1 = .ok (.bipush 97, 2) := by decide +kernel
theorem dX7_kindOf_3 : decode cX7_kindOf 3 = .ok (.if_icmp .lt 11, 3) := by decide +kernel
theorem dX7_kindOf_6 : decode cX7_kindOf 6 = .ok (.iload_n 0, 1) := by decide +kernel
theorem dX7_kindOf_7 : decode cX7_kindOf 7 = .ok (.bipush 122, 2) := by decide +kernel
theorem dX7_kindOf_9 : decode cX7_kindOf 9 = .ok (.if_icmp .gt 5, 3) := by decide +kernel
theorem dX7_kindOf_12 : decode cX7_kindOf 12 = .ok (.iconst 1, 1) := by decide +kernel
theorem dX7_kindOf_13 : decode cX7_kindOf 13 = .ok (.ireturn, 1) := by decide +kernel
theorem dX7_kindOf_14 : decode cX7_kindOf 14 = .ok (.iload_n 0, 1) := by decide +kernel
theorem dX7_kindOf_15 : decode cX7_kindOf 15 = .ok (.bipush 48, 2) := by decide +kernel
theorem dX7_kindOf_17 : decode cX7_kindOf 17 = .ok (.if_icmp .lt 13, 3) := by decide +kernel
theorem dX7_kindOf_20 : decode cX7_kindOf 20 = .ok (.iload_n 0, 1) := by decide +kernel
theorem dX7_kindOf_21 : decode cX7_kindOf 21 = .ok (.bipush 57, 2) := by decide +kernel
theorem dX7_kindOf_23 : decode cX7_kindOf 23 = .ok (.if_icmp .gt 7, 3) := by decide +kernel
theorem dX7_kindOf_26 : decode cX7_kindOf 26 = .ok (.iconst 2, 1) := by decide +kernel
theorem dX7_kindOf_27 : decode cX7_kindOf 27 = .ok (.goto 4, 3) := by decide +kernel
theorem dX7_kindOf_30 : decode cX7_kindOf 30 = .ok (.iconst 3, 1) := by decide +kernel
theorem dX7_kindOf_31 : decode cX7_kindOf 31 = .ok (.ireturn, 1) := by decide +kernel
theorem dX7_isSemicolon_0 : decode cX7_isSemicolon 0 = .ok (.aload_n 0, 1) := by decide +kernel
theorem dX7_isSemicolon_1 : decode cX7_isSemicolon 1 = .ok (.getfield 22, 3) := by decide +kernel
theorem dX7_isSemicolon_4 : decode cX7_isSemicolon 4 = .ok (.iconst 3, 1) := by decide +kernel
theorem dX7_isSemicolon_5 : decode cX7_isSemicolon 5 = .ok (.if_icmp .ne 21, 3) := by decide +kernel
theorem dX7_isSemicolon_8 : decode cX7_isSemicolon 8 = .ok (.aload_n 0, 1) := by decide +kernel
theorem dX7_isSemicolon_9 : decode cX7_isSemicolon 9 = .ok (.getfield 11, 3) := by decide +kernel
theorem dX7_isSemicolon_12 : decode cX7_isSemicolon 12 = .ok (.aload_n 0, 1) := by decide +kernel
theorem dX7_isSemicolon_13 : decode cX7_isSemicolon 13 = .ok (.getfield 25, 3) := by decide +kernel
theorem dX7_isSemicolon_16 : decode cX7_isSemicolon 16 = .ok (.iaload, 1) := by decide +kernel
theorem dX7_isSemicolon_17 : decode cX7_isSemicolon 17 = .ok (.bipush 59, 2) := by decide +kernel
theorem dX7_isSemicolon_19 : decode cX7_isSemicolon 19 = .ok (.if_icmp .ne 7, 3) := by decide +kernel
theorem dX7_isSemicolon_22 : decode cX7_isSemicolon 22 = .ok (.iconst 1, 1) := by decide +kernel
theorem dX7_isSemicolon_23 : decode cX7_isSemicolon 23 = .ok (.goto 4, 3) := by decide +kernel
theorem dX7_isSemicolon_26 : decode cX7_isSemicolon 26 = .ok (.iconst 0, 1) := by decide +kernel
theorem dX7_isSemicolon_27 : decode cX7_isSemicolon 27 = .ok (.ireturn, 1) := by decide +kernel
set_option maxRecDepth 20000 in
theorem ggX7_isWord_J0_length_8abf5 : GoodIn wsX7_isWord wsJ0_length_8abf5 := goodIn_r _ [9, 10, 11, 12, 13, 8, 14, 15, 16] (by decide +kernel) (by decide +kernel)
set_option maxRecDepth 20000 in
theorem gX7_isWord_J0_length_8abf5 : GoodIn wsX7_isWord (wsV RX7 90 RJ0 yJ0_length_8abf5 wsJ0_length_8abf5) := goodIn_app (goodIn_of _ (by decide +kernel)) ggX7_isWord_J0_length_8abf5
set_option maxRecDepth 20000 in
theorem ggX7_isWord_J0_charAt_5068e : GoodIn wsX7_isWord wsJ0_charAt_5068e := goodIn_r _ [20, 10, 21, 22, 23, 8, 24, 15, 16, 25, 26, 27, 28, 29, 30, 31, 32, 33, 34, 35, 36, 37, 38, 39, 40, 41, 42, 43, 44, 45, 46, 47, 48, 49, 50, 51, 52, 53] (by decide +kernel) (by decide +kernel)
set_option maxRecDepth 20000 in
theorem gX7_isWord_J0_charAt_5068e : GoodIn wsX7_isWord (wsV RX7 95 RJ0 yJ0_charAt_5068e wsJ0_charAt_5068e) := goodIn_app (goodIn_of _ (by decide +kernel)) ggX7_isWord_J0_charAt_5068e
theorem dX7_isWord_0 : decode cX7_isWord 0 = .ok (.aload_n 0, 1) := by decide +kernel
theorem dX7_isWord_1 : decode cX7_isWord 1 = .ok (.getfield 22, 3) := by decide +kernel
theorem dX7_isWord_4 : decode cX7_isWord 4 = .ok (.iconst 1, 1) := by decide +kernel
theorem dX7_isWord_5 : decode cX7_isWord 5 = .ok (.if_icmp .ne 19, 3) := by decide +kernel
theorem dX7_isWord_8 : decode cX7_isWord 8 = .ok (.aload_n 0, 1) := by decide +kernel
theorem dX7_isWord_9 : decode cX7_isWord 9 = .ok (.getfield 28, 3) := by decide +kernel
theorem dX7_isWord_12 : decode cX7_isWord 12 = .ok (.aload_n 0, 1) := by decide +kernel
theorem dX7_isWord_13 : decode cX7_isWord 13 = .ok (.getfield 25, 3) := by decide +kernel
theorem dX7_isWord_16 : decode cX7_isWord 16 = .ok (.isub, 1) := by decide +kernel
theorem dX7_isWord_17 : decode cX7_isWord 17 = .ok (.aload_n 1, 1) := by decide +kernel
theorem dX7_isWord_18 : decode cX7_isWord 18 = .ok (.invokevirtual 90, 3) := by decide +kernel
theorem dX7_isWord_21 : decode cX7_isWord 21 = .ok (.if_icmp .eq 5, 3) := by decide +kernel
theorem dX7_isWord_24 : decode cX7_isWord 24 = .ok (.iconst 0, 1) := by decide +kernel
theorem dX7_isWord_25 : decode cX7_isWord 25 = .ok (.ireturn, 1) := by decide +kernel
theorem dX7_isWord_26 : decode cX7_isWord 26 = .ok (.iconst 0, 1) := by decide +kernel
theorem dX7_isWord_27 : decode cX7_isWord 27 = .ok (.istore_n 2, 1) := by decide +kernel
theorem dX7_isWord_28 : decode cX7_isWord 28 = .ok (.iload_n 2, 1) := by decide +kernel
theorem dX7_isWord_29 : decode cX7_isWord 29 = .ok (.aload_n 1, 1) := by decide +kernel
theorem dX7_isWord_30 : decode cX7_isWord 30 = .ok (.invokevirtual 90, 3) := by decide +kernel
theorem dX7_isWord_33 : decode cX7_isWord 33 = .ok (.if_icmp .ge 30, 3) := by decide +kernel
theorem dX7_isWord_36 : decode cX7_isWord 36 = .ok (.aload_n 0, 1) := by decide +kernel
theorem dX7_isWord_37 : decode cX7_isWord 37 = .ok (.getfield 11, 3) := by decide +kernel
theorem dX7_isWord_40 : decode cX7_isWord 40 = .ok (.aload_n 0, 1) := by decide +kernel
theorem dX7_isWord_41 : decode cX7_isWord 41 = .ok (.getfield 25, 3) := by decide +kernel
theorem dX7_isWord_44 : decode cX7_isWord 44 = .ok (.iload_n 2, 1) := by decide +kernel
theorem dX7_isWord_45 : decode cX7_isWord 45 = .ok (.iadd, 1) := by decide +kernel
theorem dX7_isWord_46 : decode cX7_isWord 46 = .ok (.iaload, 1) := by decide +kernel
theorem dX7_isWord_47 : decode cX7_isWord 47 = .ok (.aload_n 1, 1) := by decide +kernel
theorem dX7_isWord_48 : decode cX7_isWord 48 = .ok (.iload_n 2, 1) := by decide +kernel
theorem dX7_isWord_49 : decode cX7_isWord 49 = .ok (.invokevirtual 95, 3) := by decide +kernel
theorem dX7_isWord_52 : decode cX7_isWord 52 = .ok (.if_icmp .eq 5, 3) := by decide +kernel
theorem dX7_isWord_55 : decode cX7_isWord 55 = .ok (.iconst 0, 1) := by decide +kernel
theorem dX7_isWord_56 : decode cX7_isWord 56 = .ok (.ireturn, 1) := by decide +kernel
theorem dX7_isWord_57 : decode cX7_isWord 57 = .ok (.iinc 2 1, 3) := by decide +kernel
theorem dX7_isWord_60 : decode cX7_isWord 60 = .ok (.goto (-32), 3) := by decide +kernel
theorem dX7_isWord_63 : decode cX7_isWord 63 = .ok (.iconst 1, 1) := by decide +kernel
theorem dX7_isWord_64 : decode cX7_isWord 64 = .ok (.ireturn, 1) := by decide +kernel
set_option maxRecDepth 20000 in
theorem ggX8_init_X4_init : GoodIn wsX8_init wsX4_init := goodIn_r _ [9, 10, 2, 3, 11, 12, 13, 14, 15, 16, 17, 18, 19, 20, 21, 25, 26, 27, 22, 23] (by decide +kernel) (by decide +kernel)
set_option maxRecDepth 20000 in
theorem gX8_init_X4_init_n11 : GoodIn wsX8_init (wsX4_init) := ggX8_init_X4_init
theorem dX8_init_0 : decode cX8_init 0 = .ok (.aload_n 0, 1) := by decide +kernel
theorem dX8_init_1 : decode cX8_init 1 = .ok (.invokespecial 3, 3) := by decide +kernel
theorem dX8_init_4 : decode cX8_init 4 = .ok (.aload_n 0, 1) := by decide +kernel
theorem dX8_init_5 : decode cX8_init 5 = .ok (.iconst 3, 1) := by decide +kernel
theorem dX8_init_6 : decode cX8_init 6 = .ok (.anewarray 9, 3) := by decide +kernel
theorem dX8_init_9 : decode cX8_init 9 = .ok (.dup, 1) := by decide +kernel
theorem dX8_init_10 : decode cX8_init 10 = .ok (.iconst 0, 1) := by decide +kernel
theorem dX8_init_11 : decode cX8_init 11 = .ok (.new 9, 3) := by decide +kernel
theorem dX8_init_14 : decode cX8_init 14 = .ok (.dup, 1) := by decide +kernel
theorem dX8_init_15 : decode cX8_init 15 = .ok (.invokespecial 11, 3) := by decide +kernel
theorem dX8_init_18 : decode cX8_init 18 = .ok (.aastore, 1) := by decide +kernel
theorem dX8_init_19 : decode cX8_init 19 = .ok (.dup, 1) := by decide +kernel
theorem dX8_init_20 : decode cX8_init 20 = .ok (.iconst 1, 1) := by decide +kernel
theorem dX8_init_21 : decode cX8_init 21 = .ok (.new 9, 3) := by decide +kernel
theorem dX8_init_24 : decode cX8_init 24 = .ok (.dup, 1) := by decide +kernel
theorem dX8_init_25 : decode cX8_init 25 = .ok (.invokespecial 11, 3) := by decide +kernel
theorem dX8_init_28 : decode cX8_init 28 = .ok (.aastore, 1) := by decide +kernel
theorem dX8_init_29 : decode cX8_init 29 = .ok (.dup, 1) := by decide +kernel
theorem dX8_init_30 : decode cX8_init 30 = .ok (.iconst 2, 1) := by decide +kernel
theorem dX8_init_31 : decode cX8_init 31 = .ok (.new 9, 3) := by decide +kernel
theorem dX8_init_34 : decode cX8_init 34 = .ok (.dup, 1) := by decide +kernel
theorem dX8_init_35 : decode cX8_init 35 = .ok (.invokespecial 11, 3) := by decide +kernel
theorem dX8_init_38 : decode cX8_init 38 = .ok (.aastore, 1) := by decide +kernel
theorem dX8_init_39 : decode cX8_init 39 = .ok (.putfield 12, 3) := by decide +kernel
theorem dX8_init_42 : decode cX8_init 42 = .ok (.return_, 1) := by decide +kernel
set_option maxRecDepth 20000 in
theorem ggX8_become_X4_become : GoodIn wsX8_become wsX4_become := goodIn_r _ [6, 7, 8, 9, 10, 11, 12, 13, 14, 15, 16, 18, 19, 20, 21, 22] (by decide +kernel) (by decide +kernel)
set_option maxRecDepth 20000 in
theorem gX8_become_X4_become : GoodIn wsX8_become (wsV RX8 18 RX4 yX4_become wsX4_become) := goodIn_app (goodIn_of _ (by decide +kernel)) ggX8_become_X4_become
theorem dX8_become_0 : decode cX8_become 0 = .ok (.iconst 0, 1) := by decide +kernel
theorem dX8_become_1 : decode cX8_become 1 = .ok (.istore_n 2, 1) := by decide +kernel
theorem dX8_become_2 : decode cX8_become 2 = .ok (.iload_n 2, 1) := by decide +kernel
theorem dX8_become_3 : decode cX8_become 3 = .ok (.iconst 3, 1) := by decide +kernel
theorem dX8_become_4 : decode cX8_become 4 = .ok (.if_icmp .ge 24, 3) := by decide +kernel
theorem dX8_become_7 : decode cX8_become 7 = .ok (.aload_n 0, 1) := by decide +kernel
theorem dX8_become_8 : decode cX8_become 8 = .ok (.getfield 12, 3) := by decide +kernel
theorem dX8_become_11 : decode cX8_become 11 = .ok (.iload_n 2, 1) := by decide +kernel
theorem dX8_become_12 : decode cX8_become 12 = .ok (.aaload, 1) := by decide +kernel
theorem dX8_become_13 : decode cX8_become 13 = .ok (.aload_n 1, 1) := by decide +kernel
theorem dX8_become_14 : decode cX8_become 14 = .ok (.getfield 12, 3) := by decide +kernel
theorem dX8_become_17 : decode cX8_become 17 = .ok (.iload_n 2, 1) := by decide +kernel
theorem dX8_become_18 : decode cX8_become 18 = .ok (.aaload, 1) := by decide +kernel
theorem dX8_become_19 : decode cX8_become 19 = .ok (.invokevirtual 18, 3) := by decide +kernel
theorem dX8_become_22 : decode cX8_become 22 = .ok (.iinc 2 1, 3) := by decide +kernel
theorem dX8_become_25 : decode cX8_become 25 = .ok (.goto (-23), 3) := by decide +kernel
theorem dX8_become_28 : decode cX8_become 28 = .ok (.return_, 1) := by decide +kernel
set_option maxRecDepth 20000 in
theorem ggX8_clear_X4_clear : GoodIn wsX8_clear wsX4_clear := goodIn_r _ [6, 7, 8, 9, 10, 11, 12, 13, 14, 15, 16, 17, 18, 19, 20, 21, 22, 23, 24, 25, 27, 28, 29, 30, 31] (by decide +kernel) (by decide +kernel)
set_option maxRecDepth 20000 in
theorem gX8_clear_X4_clear : GoodIn wsX8_clear (wsV RX8 22 RX4 yX4_clear wsX4_clear) := goodIn_app (goodIn_of _ (by decide +kernel)) ggX8_clear_X4_clear
theorem dX8_clear_0 : decode cX8_clear 0 = .ok (.iconst 0, 1) := by decide +kernel
theorem dX8_clear_1 : decode cX8_clear 1 = .ok (.istore_n 1, 1) := by decide +kernel
theorem dX8_clear_2 : decode cX8_clear 2 = .ok (.iload_n 1, 1) := by decide +kernel
theorem dX8_clear_3 : decode cX8_clear 3 = .ok (.iconst 3, 1) := by decide +kernel
theorem dX8_clear_4 : decode cX8_clear 4 = .ok (.if_icmp .ge 18, 3) := by decide +kernel
theorem dX8_clear_7 : decode cX8_clear 7 = .ok (.aload_n 0, 1) := by decide +kernel
theorem dX8_clear_8 : decode cX8_clear 8 = .ok (.getfield 12, 3) := by decide +kernel
theorem dX8_clear_11 : decode cX8_clear 11 = .ok (.iload_n 1, 1) := by decide +kernel
theorem dX8_clear_12 : decode cX8_clear 12 = .ok (.aaload, 1) := by decide +kernel
theorem dX8_clear_13 : decode cX8_clear 13 = .ok (.invokevirtual 22, 3) := by decide +kernel
theorem dX8_clear_16 : decode cX8_clear 16 = .ok (.iinc 1 1, 3) := by decide +kernel
theorem dX8_clear_19 : decode cX8_clear 19 = .ok (.goto (-17), 3) := by decide +kernel
theorem dX8_clear_22 : decode cX8_clear 22 = .ok (.return_, 1) := by decide +kernel
theorem dX8_rotate_0 : decode cX8_rotate 0 = .ok (.aload_n 0, 1) := by decide +kernel
theorem dX8_rotate_1 : decode cX8_rotate 1 = .ok (.getfield 12, 3) := by decide +kernel
theorem dX8_rotate_4 : decode cX8_rotate 4 = .ok (.iconst 0, 1) := by decide +kernel
theorem dX8_rotate_5 : decode cX8_rotate 5 = .ok (.aaload, 1) := by decide +kernel
theorem dX8_rotate_6 : decode cX8_rotate 6 = .ok (.astore_n 1, 1) := by decide +kernel
theorem dX8_rotate_7 : decode cX8_rotate 7 = .ok (.aload_n 0, 1) := by decide +kernel
theorem dX8_rotate_8 : decode cX8_rotate 8 = .ok (.getfield 12, 3) := by decide +kernel
theorem dX8_rotate_11 : decode cX8_rotate 11 = .ok (.iconst 0, 1) := by decide +kernel
theorem dX8_rotate_12 : decode cX8_rotate 12 = .ok (.aload_n 0, 1) := by decide +kernel
theorem dX8_rotate_13 : decode cX8_rotate 13 = .ok (.getfield 12, 3) := by decide +kernel
theorem dX8_rotate_16 : decode cX8_rotate 16 = .ok (.iconst 1, 1) := by decide +kernel
theorem dX8_rotate_17 : decode cX8_rotate 17 = .ok (.aaload, 1) := by decide +kernel
theorem dX8_rotate_18 : decode cX8_rotate 18 = .ok (.aastore, 1) := by decide +kernel
theorem dX8_rotate_19 : decode cX8_rotate 19 = .ok (.aload_n 0, 1) := by decide +kernel
theorem dX8_rotate_20 : decode cX8_rotate 20 = .ok (.getfield 12, 3) := by decide +kernel
theorem dX8_rotate_23 : decode cX8_rotate 23 = .ok (.iconst 1, 1) := by decide +kernel
theorem dX8_rotate_24 : decode cX8_rotate 24 = .ok (.aload_n 0, 1) := by decide +kernel
theorem dX8_rotate_25 : decode cX8_rotate 25 = .ok (.getfield 12, 3) := by decide +kernel
theorem dX8_rotate_28 : decode cX8_rotate 28 = .ok (.iconst 2, 1) := by decide +kernel
theorem dX8_rotate_29 : decode cX8_rotate 29 = .ok (.aaload, 1) := by decide +kernel
theorem dX8_rotate_30 : decode cX8_rotate 30 = .ok (.aastore, 1) := by decide +kernel
theorem dX8_rotate_31 : decode cX8_rotate 31 = .ok (.aload_n 0, 1) := by decide +kernel
theorem dX8_rotate_32 : decode cX8_rotate 32 = .ok (.getfield 12, 3) := by decide +kernel
theorem dX8_rotate_35 : decode cX8_rotate 35 = .ok (.iconst 2, 1) := by decide +kernel
theorem dX8_rotate_36 : decode cX8_rotate 36 = .ok (.aload_n 1, 1) := by decide +kernel
theorem dX8_rotate_37 : decode cX8_rotate 37 = .ok (.aastore, 1) := by decide +kernel
theorem dX8_rotate_38 : decode cX8_rotate 38 = .ok (.return_, 1) := by decide +kernel
set_option maxRecDepth 20000 in
theorem ggX8_isOver_X4_isOver : GoodIn wsX8_isOver wsX4_isOver := goodIn_r _ [6, 7, 8, 9, 11, 12, 13, 14, 15] (by decide +kernel) (by decide +kernel)
set_option maxRecDepth 20000 in
theorem gX8_isOver_X4_isOver : GoodIn wsX8_isOver (wsV RX8 25 RX4 yX4_isOver wsX4_isOver) := goodIn_app (goodIn_of _ (by decide +kernel)) ggX8_isOver_X4_isOver
theorem dX8_isOver_0 : decode cX8_isOver 0 = .ok (.aload_n 0, 1) := by decide +kernel
theorem dX8_isOver_1 : decode cX8_isOver 1 = .ok (.getfield 12, 3) := by decide +kernel
theorem dX8_isOver_4 : decode cX8_isOver 4 = .ok (.iconst 0, 1) := by decide +kernel
theorem dX8_isOver_5 : decode cX8_isOver 5 = .ok (.aaload, 1) := by decide +kernel
theorem dX8_isOver_6 : decode cX8_isOver 6 = .ok (.invokevirtual 25, 3) := by decide +kernel
theorem dX8_isOver_9 : decode cX8_isOver 9 = .ok (.ifCond .ne 27, 3) := by decide +kernel
theorem dX8_isOver_12 : decode cX8_isOver 12 = .ok (.aload_n 0, 1) := by decide +kernel
theorem dX8_isOver_13 : decode cX8_isOver 13 = .ok (.getfield 12, 3) := by decide +kernel
theorem dX8_isOver_16 : decode cX8_isOver 16 = .ok (.iconst 1, 1) := by decide +kernel
theorem dX8_isOver_17 : decode cX8_isOver 17 = .ok (.aaload, 1) := by decide +kernel
theorem dX8_isOver_18 : decode cX8_isOver 18 = .ok (.invokevirtual 25, 3) := by decide +kernel
theorem dX8_isOver_21 : decode cX8_isOver 21 = .ok (.ifCond .ne 15, 3) := by decide +kernel
theorem dX8_isOver_24 : decode cX8_isOver 24 = .ok (.aload_n 0, 1) := by decide +kernel
theorem dX8_isOver_25 : decode cX8_isOver 25 = .ok (.getfield 12, 3) := by decide +kernel
theorem dX8_isOver_28 : decode cX8_isOver 28 = .ok (.iconst 2, 1) := by decide +kernel
theorem dX8_isOver_29 : decode cX8_isOver 29 = .ok (.aaload, 1) := by decide +kernel
theorem dX8_isOver_30 : decode cX8_isOver 30 = .ok (.invokevirtual 25, 3) := by decide +kernel
theorem dX8_isOver_33 : decode cX8_isOver 33 = .ok (.ifCond .eq 7, 3) := by decide +kernel
theorem dX8_isOver_36 : decode cX8_isOver 36 = .ok (.iconst 1, 1) := by decide +kernel
theorem dX8_isOver_37 : decode cX8_isOver 37 = .ok (.goto 4, 3) := by decide +kernel
theorem dX8_isOver_40 : decode cX8_isOver 40 = .ok (.iconst 0, 1) := by decide +kernel
theorem dX8_isOver_41 : decode cX8_isOver 41 = .ok (.ireturn, 1) := by decide +kernel
set_option maxRecDepth 20000 in
theorem ggX9_init_X7_init : GoodIn wsX9_init wsX7_init := goodIn_r _ [39, 40, 2, 3, 41, 42, 43, 44, 45, 46, 47, 48, 128, 129, 130, 131, 132, 133, 134] (by decide +kernel) (by decide +kernel)
set_option maxRecDepth 20000 in
theorem gX9_init_X7_init_n9 : GoodIn wsX9_init (wsX7_init) := ggX9_init_X7_init
set_option maxRecDepth 20000 in
theorem ggX9_init_X2_init : GoodIn wsX9_init wsX2_init := goodIn_r _ [51, 52, 2, 3, 53, 54, 41, 55, 56, 57, 58, 59, 60, 10, 61, 62, 63, 64, 65, 66, 67, 68, 69, 70, 71, 72, 73, 147, 148, 149, 150, 151] (by decide +kernel) (by decide +kernel)
set_option maxRecDepth 20000 in
theorem gX9_init_X2_init : GoodIn wsX9_init (wsX2_init) := ggX9_init_X2_init
set_option maxRecDepth 20000 in
theorem ggX9_init_X8_init : GoodIn wsX9_init wsX8_init := goodIn_r _ [75, 76, 2, 3, 77, 78, 79, 80, 81, 82, 83, 84, 85, 86, 87, 88, 89, 90, 91, 92, 93, 94, 170, 171, 152, 172, 173, 174] (by decide +kernel) (by decide +kernel)
set_option maxRecDepth 20000 in
theorem gX9_init_X8_init_n28 : GoodIn wsX9_init (wsX8_init) := ggX9_init_X8_init
set_option maxRecDepth 20000 in
theorem ggX9_init_X3_init : GoodIn wsX9_init wsX3_init := goodIn_r _ [97, 98, 2, 3, 99, 100, 101, 102, 14, 15, 74, 75, 76, 77, 78, 79, 80, 81, 82, 83, 84, 85, 86, 87, 88, 89, 90, 91, 92, 93, 94, 153, 154, 155, 152, 170, 171, 172, 173, 174] (by decide +kernel) (by decide +kernel)
set_option maxRecDepth 20000 in
theorem gX9_init_X3_init : GoodIn wsX9_init (wsX3_init) := ggX9_init_X3_init
set_option maxRecDepth 20000 in
theorem ggX9_init_X5_init : GoodIn wsX9_init wsX5_init := goodIn_r _ [104, 105, 2, 3, 106, 78, 79, 107, 108, 109, 85, 86, 110, 111, 112, 81, 82, 83, 84, 87, 88, 89, 90, 91, 92, 93, 94, 170, 171, 156, 157, 158, 159, 160, 172, 173, 174] (by decide +kernel) (by decide +kernel)
set_option maxRecDepth 20000 in
theorem gX9_init_X5_init_n53 : GoodIn wsX9_init (wsX5_init) := ggX9_init_X5_init
set_option maxRecDepth 20000 in
theorem ggX9_init_X0_init : GoodIn wsX9_init wsX0_init := goodIn_r _ [114, 115, 2, 3, 116, 117, 118, 119, 161, 162, 163, 164] (by decide +kernel) (by decide +kernel)
set_option maxRecDepth 20000 in
theorem gX9_init_X0_init_n60 : GoodIn wsX9_init (wsX0_init) := ggX9_init_X0_init
set_option maxRecDepth 20000 in
theorem ggX9_init_X6_init : GoodIn wsX9_init wsX6_init := goodIn_r _ [121, 122, 2, 3, 123, 124, 41, 125, 126, 23, 127, 165, 166, 167, 168, 169] (by decide +kernel) (by decide +kernel)
set_option maxRecDepth 20000 in
theorem gX9_init_X6_init_n70 : GoodIn wsX9_init (wsX6_init) := ggX9_init_X6_init
theorem dX9_init_0 : decode cX9_init 0 = .ok (.aload_n 0, 1) := by decide +kernel
theorem dX9_init_1 : decode cX9_init 1 = .ok (.invokespecial 1, 3) := by decide +kernel
theorem dX9_init_4 : decode cX9_init 4 = .ok (.aload_n 0, 1) := by decide +kernel
theorem dX9_init_5 : decode cX9_init 5 = .ok (.new 7, 3) := by decide +kernel
theorem dX9_init_8 : decode cX9_init 8 = .ok (.dup, 1) := by decide +kernel
theorem dX9_init_9 : decode cX9_init 9 = .ok (.invokespecial 9, 3) := by decide +kernel
theorem dX9_init_12 : decode cX9_init 12 = .ok (.putfield 10, 3) := by decide +kernel
theorem dX9_init_15 : decode cX9_init 15 = .ok (.aload_n 0, 1) := by decide +kernel
theorem dX9_init_16 : decode cX9_init 16 = .ok (.new 16, 3) := by decide +kernel
theorem dX9_init_19 : decode cX9_init 19 = .ok (.dup, 1) := by decide +kernel
theorem dX9_init_20 : decode cX9_init 20 = .ok (.invokespecial 18, 3) := by decide +kernel
theorem dX9_init_23 : decode cX9_init 23 = .ok (.putfield 19, 3) := by decide +kernel
theorem dX9_init_26 : decode cX9_init 26 = .ok (.aload_n 0, 1) := by decide +kernel
theorem dX9_init_27 : decode cX9_init 27 = .ok (.new 16, 3) := by decide +kernel
theorem dX9_init_30 : decode cX9_init 30 = .ok (.dup, 1) := by decide +kernel
theorem dX9_init_31 : decode cX9_init 31 = .ok (.invokespecial 18, 3) := by decide +kernel
theorem dX9_init_34 : decode cX9_init 34 = .ok (.putfield 23, 3) := by decide +kernel
theorem dX9_init_37 : decode cX9_init 37 = .ok (.aload_n 0, 1) := by decide +kernel
theorem dX9_init_38 : decode cX9_init 38 = .ok (.new 26, 3) := by decide +kernel
theorem dX9_init_41 : decode cX9_init 41 = .ok (.dup, 1) := by decide +kernel
theorem dX9_init_42 : decode cX9_init 42 = .ok (.invokespecial 28, 3) := by decide +kernel
theorem dX9_init_45 : decode cX9_init 45 = .ok (.putfield 29, 3) := by decide +kernel
theorem dX9_init_48 : decode cX9_init 48 = .ok (.aload_n 0, 1) := by decide +kernel
theorem dX9_init_49 : decode cX9_init 49 = .ok (.new 26, 3) := by decide +kernel
theorem dX9_init_52 : decode cX9_init 52 = .ok (.dup, 1) := by decide +kernel
theorem dX9_init_53 : decode cX9_init 53 = .ok (.invokespecial 28, 3) := by decide +kernel
theorem dX9_init_56 : decode cX9_init 56 = .ok (.putfield 33, 3) := by decide +kernel
theorem dX9_init_59 : decode cX9_init 59 = .ok (.aload_n 0, 1) := by decide +kernel
theorem dX9_init_60 : decode cX9_init 60 = .ok (.new 36, 3) := by decide +kernel
theorem dX9_init_63 : decode cX9_init 63 = .ok (.dup, 1) := by decide +kernel
theorem dX9_init_64 : decode cX9_init 64 = .ok (.invokespecial 38, 3) := by decide +kernel
theorem dX9_init_67 : decode cX9_init 67 = .ok (.putfield 39, 3) := by decide +kernel
theorem dX9_init_70 : decode cX9_init 70 = .ok (.aload_n 0, 1) := by decide +kernel
theorem dX9_init_71 : decode cX9_init 71 = .ok (.iconst 2, 1) := by decide +kernel
theorem dX9_init_72 : decode cX9_init 72 = .ok (.anewarray 26, 3) := by decide +kernel
theorem dX9_init_75 : decode cX9_init 75 = .ok (.dup, 1) := by decide +kernel
theorem dX9_init_76 : decode cX9_init 76 = .ok (.iconst 0, 1) := by decide +kernel
theorem dX9_init_77 : decode cX9_init 77 = .ok (.new 26, 3) := by decide +kernel
theorem dX9_init_80 : decode cX9_init 80 = .ok (.dup, 1) := by decide +kernel
theorem dX9_init_81 : decode cX9_init 81 = .ok (.invokespecial 28, 3) := by decide +kernel
theorem dX9_init_84 : decode cX9_init 84 = .ok (.aastore, 1) := by decide +kernel
theorem dX9_init_85 : decode cX9_init 85 = .ok (.dup, 1) := by decide +kernel
theorem dX9_init_86 : decode cX9_init 86 = .ok (.iconst 1, 1) := by decide +kernel
theorem dX9_init_87 : decode cX9_init 87 = .ok (.new 26, 3) := by decide +kernel
theorem dX9_init_90 : decode cX9_init 90 = .ok (.dup, 1) := by decide +kernel
theorem dX9_init_91 : decode cX9_init 91 = .ok (.invokespecial 28, 3) := by decide +kernel
theorem dX9_init_94 : decode cX9_init 94 = .ok (.aastore, 1) := by decide +kernel
theorem dX9_init_95 : decode cX9_init 95 = .ok (.putfield 43, 3) := by decide +kernel
theorem dX9_init_98 : decode cX9_init 98 = .ok (.aload_n 0, 1) := by decide +kernel
theorem dX9_init_99 : decode cX9_init 99 = .ok (.iconst 2, 1) := by decide +kernel
theorem dX9_init_100 : decode cX9_init 100 = .ok (.newarray .boolean, 2) := by decide +kernel
theorem dX9_init_102 : decode cX9_init 102 = .ok (.putfield 47, 3) := by decide +kernel
theorem dX9_init_105 : decode cX9_init 105 = .ok (.aload_n 0, 1) := by decide +kernel
theorem dX9_init_106 : decode cX9_init 106 = .ok (.new 51, 3) := by decide +kernel
theorem dX9_init_109 : decode cX9_init 109 = .ok (.dup, 1) := by decide +kernel
theorem dX9_init_110 : decode cX9_init 110 = .ok (.invokespecial 53, 3) := by decide +kernel
theorem dX9_init_113 : decode cX9_init 113 = .ok (.putfield 54, 3) := by decide +kernel
theorem dX9_init_116 : decode cX9_init 116 = .ok (.aload_n 0, 1) := by decide +kernel
theorem dX9_init_117 : decode cX9_init 117 = .ok (.new 58, 3) := by decide +kernel
theorem dX9_init_120 : decode cX9_init 120 = .ok (.dup, 1) := by decide +kernel
theorem dX9_init_121 : decode cX9_init 121 = .ok (.invokespecial 60, 3) := by decide +kernel
theorem dX9_init_124 : decode cX9_init 124 = .ok (.putfield 61, 3) := by decide +kernel
theorem dX9_init_127 : decode cX9_init 127 = .ok (.aload_n 0, 1) := by decide +kernel
theorem dX9_init_128 : decode cX9_init 128 = .ok (.new 58, 3) := by decide +kernel
theorem dX9_init_131 : decode cX9_init 131 = .ok (.dup, 1) := by decide +kernel
theorem dX9_init_132 : decode cX9_init 132 = .ok (.invokespecial 60, 3) := by decide +kernel
theorem dX9_init_135 : decode cX9_init 135 = .ok (.putfield 65, 3) := by decide +kernel
theorem dX9_init_138 : decode cX9_init 138 = .ok (.aload_n 0, 1) := by decide +kernel
theorem dX9_init_139 : decode cX9_init 139 = .ok (.iconst 3, 1) := by decide +kernel
theorem dX9_init_140 : decode cX9_init 140 = .ok (.anewarray 68, 3) := by decide +kernel
theorem dX9_init_143 : decode cX9_init 143 = .ok (.dup, 1) := by decide +kernel
theorem dX9_init_144 : decode cX9_init 144 = .ok (.iconst 0, 1) := by decide +kernel
theorem dX9_init_145 : decode cX9_init 145 = .ok (.new 68, 3) := by decide +kernel
theorem dX9_init_148 : decode cX9_init 148 = .ok (.dup, 1) := by decide +kernel
theorem dX9_init_149 : decode cX9_init 149 = .ok (.invokespecial 70, 3) := by decide +kernel
theorem dX9_init_152 : decode cX9_init 152 = .ok (.aastore, 1) := by decide +kernel
theorem dX9_init_153 : decode cX9_init 153 = .ok (.dup, 1) := by decide +kernel
theorem dX9_init_154 : decode cX9_init 154 = .ok (.iconst 1, 1) := by decide +kernel
theorem dX9_init_155 : decode cX9_init 155 = .ok (.new 68, 3) := by decide +kernel
theorem dX9_init_158 : decode cX9_init 158 = .ok (.dup, 1) := by decide +kernel
theorem dX9_init_159 : decode cX9_init 159 = .ok (.invokespecial 70, 3) := by decide +kernel
theorem dX9_init_162 : decode cX9_init 162 = .ok (.aastore, 1) := by decide +kernel
theorem dX9_init_163 : decode cX9_init 163 = .ok (.dup, 1) := by decide +kernel
theorem dX9_init_164 : decode cX9_init 164 = .ok (.iconst 2, 1) := by decide +kernel
theorem dX9_init_165 : decode cX9_init 165 = .ok (.new 68, 3) := by decide +kernel
theorem dX9_init_168 : decode cX9_init 168 = .ok (.dup, 1) := by decide +kernel
theorem dX9_init_169 : decode cX9_init 169 = .ok (.invokespecial 70, 3) := by decide +kernel
theorem dX9_init_172 : decode cX9_init 172 = .ok (.aastore, 1) := by decide +kernel
theorem dX9_init_173 : decode cX9_init 173 = .ok (.putfield 71, 3) := by decide +kernel
theorem dX9_init_176 : decode cX9_init 176 = .ok (.return_, 1) := by decide +kernel
set_option maxRecDepth 20000 in
theorem ggX9_write_X9_isOutside : GoodIn wsX9_write wsX9_isOutside := goodIn_r _ [8] (by decide +kernel) (by decide +kernel)
set_option maxRecDepth 20000 in
theorem gX9_write_X9_isOutside : GoodIn wsX9_write (va_wsS RX9 75 yX9_isOutside wsX9_isOutside) := goodIn_app (goodIn_of _ (by decide +kernel)) ggX9_write_X9_isOutside
set_option maxRecDepth 20000 in
theorem ggX9_write_X7_append : GoodIn wsX9_write wsX7_append := goodIn_r _ [13, 14, 15, 28, 29, 30, 31, 32, 33, 34] (by decide +kernel) (by decide +kernel)
set_option maxRecDepth 20000 in
theorem gX9_write_X7_append : GoodIn wsX9_write (wsV RX9 80 RX7 yX7_append wsX7_append) := goodIn_app (goodIn_of _ (by decide +kernel)) ggX9_write_X7_append
theorem dX9_write_0 : decode cX9_write 0 = .ok (.iload_n 1, 1) := by decide +kernel
theorem dX9_write_1 : decode cX9_write 1 = .ok (.iconst 0, 1) := by decide +kernel
theorem dX9_write_2 : decode cX9_write 2 = .ok (.sipush 255, 3) := by decide +kernel
theorem dX9_write_5 : decode cX9_write 5 = .ok (.invokestatic 75, 3) := by decide +kernel
theorem dX9_write_8 : decode cX9_write 8 = .ok (.ifCond .eq 6, 3) := by decide +kernel
theorem dX9_write_11 : decode cX9_write 11 = .ok (.ldc 79, 2) := by decide +kernel
theorem dX9_write_13 : decode cX9_write 13 = .ok (.ireturn, 1) := by decide +kernel
theorem dX9_write_14 : decode cX9_write 14 = .ok (.aload_n 0, 1) := by decide +kernel
theorem dX9_write_15 : decode cX9_write 15 = .ok (.getfield 10, 3) := by decide +kernel
theorem dX9_write_18 : decode cX9_write 18 = .ok (.iload_n 1, 1) := by decide +kernel
theorem dX9_write_19 : decode cX9_write 19 = .ok (.invokevirtual 80, 3) := by decide +kernel
theorem dX9_write_22 : decode cX9_write 22 = .ok (.ifCond .eq 13, 3) := by decide +kernel
theorem dX9_write_25 : decode cX9_write 25 = .ok (.aload_n 0, 1) := by decide +kernel
theorem dX9_write_26 : decode cX9_write 26 = .ok (.getfield 10, 3) := by decide +kernel
theorem dX9_write_29 : decode cX9_write 29 = .ok (.getfield 84, 3) := by decide +kernel
theorem dX9_write_32 : decode cX9_write 32 = .ok (.goto 5, 3) := by decide +kernel
theorem dX9_write_35 : decode cX9_write 35 = .ok (.ldc 88, 2) := by decide +kernel
theorem dX9_write_37 : decode cX9_write 37 = .ok (.ireturn, 1) := by decide +kernel
theorem dX9_erase_0 : decode cX9_erase 0 = .ok (.aload_n 0, 1) := by decide +kernel
theorem dX9_erase_1 : decode cX9_erase 1 = .ok (.getfield 10, 3) := by decide +kernel
theorem dX9_erase_4 : decode cX9_erase 4 = .ok (.getfield 84, 3) := by decide +kernel
