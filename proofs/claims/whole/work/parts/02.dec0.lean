theorem dX0_init_0 : decode cX0_init 0 = .ok (.aload_n 0, 1) := by decide +kernel
theorem dX0_init_1 : decode cX0_init 1 = .ok (.invokespecial 3, 3) := by decide +kernel
theorem dX0_init_4 : decode cX0_init 4 = .ok (.aload_n 0, 1) := by decide +kernel
theorem dX0_init_5 : decode cX0_init 5 = .ok (.lconst 0, 1) := by decide +kernel
theorem dX0_init_6 : decode cX0_init 6 = .ok (.putfield 9, 3) := by decide +kernel
theorem dX0_init_9 : decode cX0_init 9 = .ok (.aload_n 0, 1) := by decide +kernel
theorem dX0_init_10 : decode cX0_init 10 = .ok (.lconst 0, 1) := by decide +kernel
theorem dX0_init_11 : decode cX0_init 11 = .ok (.putfield 15, 3) := by decide +kernel
theorem dX0_init_14 : decode cX0_init 14 = .ok (.aload_n 0, 1) := by decide +kernel
theorem dX0_init_15 : decode cX0_init 15 = .ok (.lconst 0, 1) := by decide +kernel
theorem dX0_init_16 : decode cX0_init 16 = .ok (.putfield 18, 3) := by decide +kernel
theorem dX0_init_19 : decode cX0_init 19 = .ok (.aload_n 0, 1) := by decide +kernel
theorem dX0_init_20 : decode cX0_init 20 = .ok (.lconst 1, 1) := by decide +kernel
theorem dX0_init_21 : decode cX0_init 21 = .ok (.putfield 21, 3) := by decide +kernel
theorem dX0_init_24 : decode cX0_init 24 = .ok (.return_, 1) := by decide +kernel
theorem dX0_become_0 : decode cX0_become 0 = .ok (.aload_n 0, 1) := by decide +kernel
theorem dX0_become_1 : decode cX0_become 1 = .ok (.lload_n 1, 1) := by decide +kernel
theorem dX0_become_2 : decode cX0_become 2 = .ok (.putfield 9, 3) := by decide +kernel
theorem dX0_become_5 : decode cX0_become 5 = .ok (.aload_n 0, 1) := by decide +kernel
theorem dX0_become_6 : decode cX0_become 6 = .ok (.lload_n 3, 1) := by decide +kernel
theorem dX0_become_7 : decode cX0_become 7 = .ok (.putfield 15, 3) := by decide +kernel
theorem dX0_become_10 : decode cX0_become 10 = .ok (.aload_n 0, 1) := by decide +kernel
theorem dX0_become_11 : decode cX0_become 11 = .ok (.lload 5, 2) := by decide +kernel
theorem dX0_become_13 : decode cX0_become 13 = .ok (.putfield 18, 3) := by decide +kernel
theorem dX0_become_16 : decode cX0_become 16 = .ok (.aload_n 0, 1) := by decide +kernel
theorem dX0_become_17 : decode cX0_become 17 = .ok (.lload 7, 2) := by decide +kernel
theorem dX0_become_19 : decode cX0_become 19 = .ok (.putfield 21, 3) := by decide +kernel
theorem dX0_become_22 : decode cX0_become 22 = .ok (.return_, 1) := by decide +kernel
set_option maxRecDepth 20000 in
theorem ggX0_takeFault_X2_ohmsUpTo : GoodIn wsX0_takeFault wsX2_ohmsUpTo := goodIn_r _ [7, 8, 9, 18, 19, 20, 21, 22] (by decide +kernel) (by decide +kernel)
set_option maxRecDepth 20000 in
theorem gX0_takeFault_X2_ohmsUpTo : GoodIn wsX0_takeFault (wsV RX0 30 RX2 yX2_ohmsUpTo wsX2_ohmsUpTo) := goodIn_app (goodIn_of _ (by decide +kernel)) ggX0_takeFault_X2_ohmsUpTo
set_option maxRecDepth 20000 in
theorem ggX0_takeFault_X0_become : GoodIn wsX0_takeFault wsX0_become := goodIn_r _ [14, 15, 16, 17, 2, 23, 24, 25, 26] (by decide +kernel) (by decide +kernel)
set_option maxRecDepth 20000 in
theorem gX0_takeFault_X0_become : GoodIn wsX0_takeFault (wsV RX0 34 RX0 yX0_become wsX0_become) := goodIn_app (goodIn_of _ (by decide +kernel)) ggX0_takeFault_X0_become
theorem dX0_takeFault_0 : decode cX0_takeFault 0 = .ok (.aload_n 1, 1) := by decide +kernel
theorem dX0_takeFault_1 : decode cX0_takeFault 1 = .ok (.getfield 24, 3) := by decide +kernel
theorem dX0_takeFault_4 : decode cX0_takeFault 4 = .ok (.i2l, 1) := by decide +kernel
theorem dX0_takeFault_5 : decode cX0_takeFault 5 = .ok (.lstore 5, 2) := by decide +kernel
theorem dX0_takeFault_7 : decode cX0_takeFault 7 = .ok (.aload_n 1, 1) := by decide +kernel
theorem dX0_takeFault_8 : decode cX0_takeFault 8 = .ok (.iload_n 3, 1) := by decide +kernel
theorem dX0_takeFault_9 : decode cX0_takeFault 9 = .ok (.iconst 0, 1) := by decide +kernel
theorem dX0_takeFault_10 : decode cX0_takeFault 10 = .ok (.invokevirtual 30, 3) := by decide +kernel
theorem dX0_takeFault_13 : decode cX0_takeFault 13 = .ok (.i2l, 1) := by decide +kernel
theorem dX0_takeFault_14 : decode cX0_takeFault 14 = .ok (.lstore 7, 2) := by decide +kernel
theorem dX0_takeFault_16 : decode cX0_takeFault 16 = .ok (.aload_n 1, 1) := by decide +kernel
theorem dX0_takeFault_17 : decode cX0_takeFault 17 = .ok (.iload_n 3, 1) := by decide +kernel
theorem dX0_takeFault_18 : decode cX0_takeFault 18 = .ok (.iconst 1, 1) := by decide +kernel
theorem dX0_takeFault_19 : decode cX0_takeFault 19 = .ok (.invokevirtual 30, 3) := by decide +kernel
theorem dX0_takeFault_22 : decode cX0_takeFault 22 = .ok (.i2l, 1) := by decide +kernel
theorem dX0_takeFault_23 : decode cX0_takeFault 23 = .ok (.lstore 9, 2) := by decide +kernel
theorem dX0_takeFault_25 : decode cX0_takeFault 25 = .ok (.aload_n 1, 1) := by decide +kernel
theorem dX0_takeFault_26 : decode cX0_takeFault 26 = .ok (.iload_n 3, 1) := by decide +kernel
theorem dX0_takeFault_27 : decode cX0_takeFault 27 = .ok (.iconst 2, 1) := by decide +kernel
theorem dX0_takeFault_28 : decode cX0_takeFault 28 = .ok (.invokevirtual 30, 3) := by decide +kernel
theorem dX0_takeFault_31 : decode cX0_takeFault 31 = .ok (.i2l, 1) := by decide +kernel
theorem dX0_takeFault_32 : decode cX0_takeFault 32 = .ok (.lstore 11, 2) := by decide +kernel
theorem dX0_takeFault_34 : decode cX0_takeFault 34 = .ok (.iload_n 2, 1) := by decide +kernel
theorem dX0_takeFault_35 : decode cX0_takeFault 35 = .ok (.tableswitch 128 0 2 #[25, 52, 74], 25) := by decide +kernel
theorem dX0_takeFault_60 : decode cX0_takeFault 60 = .ok (.aload_n 0, 1) := by decide +kernel
theorem dX0_takeFault_61 : decode cX0_takeFault 61 = .ok (.lload 5, 2) := by decide +kernel
theorem dX0_takeFault_63 : decode cX0_takeFault 63 = .ok (.lload 5, 2) := by decide +kernel
theorem dX0_takeFault_65 : decode cX0_takeFault 65 = .ok (.lload 5, 2) := by decide +kernel
theorem dX0_takeFault_67 : decode cX0_takeFault 67 = .ok (.lload 7, 2) := by decide +kernel
theorem dX0_takeFault_69 : decode cX0_takeFault 69 = .ok (.lload 9, 2) := by decide +kernel
theorem dX0_takeFault_71 : decode cX0_takeFault 71 = .ok (.ladd, 1) := by decide +kernel
theorem dX0_takeFault_72 : decode cX0_takeFault 72 = .ok (.lload 11, 2) := by decide +kernel
theorem dX0_takeFault_74 : decode cX0_takeFault 74 = .ok (.ladd, 1) := by decide +kernel
theorem dX0_takeFault_75 : decode cX0_takeFault 75 = .ok (.iconst 3, 1) := by decide +kernel
theorem dX0_takeFault_76 : decode cX0_takeFault 76 = .ok (.iload 4, 2) := by decide +kernel
theorem dX0_takeFault_78 : decode cX0_takeFault 78 = .ok (.imul, 1) := by decide +kernel
theorem dX0_takeFault_79 : decode cX0_takeFault 79 = .ok (.i2l, 1) := by decide +kernel
theorem dX0_takeFault_80 : decode cX0_takeFault 80 = .ok (.ladd, 1) := by decide +kernel
theorem dX0_takeFault_81 : decode cX0_takeFault 81 = .ok (.invokevirtual 34, 3) := by decide +kernel
theorem dX0_takeFault_84 : decode cX0_takeFault 84 = .ok (.goto 93, 3) := by decide +kernel
theorem dX0_takeFault_87 : decode cX0_takeFault 87 = .ok (.aload_n 0, 1) := by decide +kernel
theorem dX0_takeFault_88 : decode cX0_takeFault 88 = .ok (.lconst 0, 1) := by decide +kernel
theorem dX0_takeFault_89 : decode cX0_takeFault 89 = .ok (.lload 5, 2) := by decide +kernel
theorem dX0_takeFault_91 : decode cX0_takeFault 91 = .ok (.lload 5, 2) := by decide +kernel
theorem dX0_takeFault_93 : decode cX0_takeFault 93 = .ok (.lneg, 1) := by decide +kernel
theorem dX0_takeFault_94 : decode cX0_takeFault 94 = .ok (.lload 9, 2) := by decide +kernel
theorem dX0_takeFault_96 : decode cX0_takeFault 96 = .ok (.lload 11, 2) := by decide +kernel
theorem dX0_takeFault_98 : decode cX0_takeFault 98 = .ok (.ladd, 1) := by decide +kernel
theorem dX0_takeFault_99 : decode cX0_takeFault 99 = .ok (.iload 4, 2) := by decide +kernel
theorem dX0_takeFault_101 : decode cX0_takeFault 101 = .ok (.i2l, 1) := by decide +kernel
theorem dX0_takeFault_102 : decode cX0_takeFault 102 = .ok (.ladd, 1) := by decide +kernel
theorem dX0_takeFault_103 : decode cX0_takeFault 103 = .ok (.invokevirtual 34, 3) := by decide +kernel
theorem dX0_takeFault_106 : decode cX0_takeFault 106 = .ok (.goto 71, 3) := by decide +kernel
theorem dX0_takeFault_109 : decode cX0_takeFault 109 = .ok (.lload 7, 2) := by decide +kernel
theorem dX0_takeFault_111 : decode cX0_takeFault 111 = .ok (.iconst 3, 1) := by decide +kernel
theorem dX0_takeFault_112 : decode cX0_takeFault 112 = .ok (.iload 4, 2) := by decide +kernel
theorem dX0_takeFault_114 : decode cX0_takeFault 114 = .ok (.imul, 1) := by decide +kernel
theorem dX0_takeFault_115 : decode cX0_takeFault 115 = .ok (.i2l, 1) := by decide +kernel
theorem dX0_takeFault_116 : decode cX0_takeFault 116 = .ok (.ladd, 1) := by decide +kernel
theorem dX0_takeFault_117 : decode cX0_takeFault 117 = .ok (.lstore 13, 2) := by decide +kernel
theorem dX0_takeFault_119 : decode cX0_takeFault 119 = .ok (.aload_n 0, 1) := by decide +kernel
theorem dX0_takeFault_120 : decode cX0_takeFault 120 = .ok (.lload 5, 2) := by decide +kernel
theorem dX0_takeFault_122 : decode cX0_takeFault 122 = .ok (.lneg, 1) := by decide +kernel
theorem dX0_takeFault_123 : decode cX0_takeFault 123 = .ok (.lload 11, 2) := by decide +kernel
theorem dX0_takeFault_125 : decode cX0_takeFault 125 = .ok (.lmul, 1) := by decide +kernel
theorem dX0_takeFault_126 : decode cX0_takeFault 126 = .ok (.lload 5, 2) := by decide +kernel
theorem dX0_takeFault_128 : decode cX0_takeFault 128 = .ok (.lload 11, 2) := by decide +kernel
theorem dX0_takeFault_130 : decode cX0_takeFault 130 = .ok (.lload 13, 2) := by decide +kernel
theorem dX0_takeFault_132 : decode cX0_takeFault 132 = .ok (.ladd, 1) := by decide +kernel
theorem dX0_takeFault_133 : decode cX0_takeFault 133 = .ok (.lmul, 1) := by decide +kernel
theorem dX0_takeFault_134 : decode cX0_takeFault 134 = .ok (.lload 5, 2) := by decide +kernel
theorem dX0_takeFault_136 : decode cX0_takeFault 136 = .ok (.lneg, 1) := by decide +kernel
theorem dX0_takeFault_137 : decode cX0_takeFault 137 = .ok (.lload 13, 2) := by decide +kernel
theorem dX0_takeFault_139 : decode cX0_takeFault 139 = .ok (.lmul, 1) := by decide +kernel
theorem dX0_takeFault_140 : decode cX0_takeFault 140 = .ok (.lload 9, 2) := by decide +kernel
theorem dX0_takeFault_142 : decode cX0_takeFault 142 = .ok (.lload 11, 2) := by decide +kernel
theorem dX0_takeFault_144 : decode cX0_takeFault 144 = .ok (.lmul, 1) := by decide +kernel
theorem dX0_takeFault_145 : decode cX0_takeFault 145 = .ok (.lload 9, 2) := by decide +kernel
theorem dX0_takeFault_147 : decode cX0_takeFault 147 = .ok (.lload 13, 2) := by decide +kernel
theorem dX0_takeFault_149 : decode cX0_takeFault 149 = .ok (.lmul, 1) := by decide +kernel
theorem dX0_takeFault_150 : decode cX0_takeFault 150 = .ok (.ladd, 1) := by decide +kernel
theorem dX0_takeFault_151 : decode cX0_takeFault 151 = .ok (.lload 11, 2) := by decide +kernel
theorem dX0_takeFault_153 : decode cX0_takeFault 153 = .ok (.lload 13, 2) := by decide +kernel
theorem dX0_takeFault_155 : decode cX0_takeFault 155 = .ok (.lmul, 1) := by decide +kernel
theorem dX0_takeFault_156 : decode cX0_takeFault 156 = .ok (.ladd, 1) := by decide +kernel
theorem dX0_takeFault_157 : decode cX0_takeFault 157 = .ok (.invokevirtual 34, 3) := by decide +kernel
theorem dX0_takeFault_160 : decode cX0_takeFault 160 = .ok (.goto 17, 3) := by decide +kernel
theorem dX0_takeFault_163 : decode cX0_takeFault 163 = .ok (.aload_n 0, 1) := by decide +kernel
theorem dX0_takeFault_164 : decode cX0_takeFault 164 = .ok (.lconst 0, 1) := by decide +kernel
theorem dX0_takeFault_165 : decode cX0_takeFault 165 = .ok (.lload 5, 2) := by decide +kernel
theorem dX0_takeFault_167 : decode cX0_takeFault 167 = .ok (.lconst 0, 1) := by decide +kernel
theorem dX0_takeFault_168 : decode cX0_takeFault 168 = .ok (.lload 9, 2) := by decide +kernel
theorem dX0_takeFault_170 : decode cX0_takeFault 170 = .ok (.iload 4, 2) := by decide +kernel
theorem dX0_takeFault_172 : decode cX0_takeFault 172 = .ok (.i2l, 1) := by decide +kernel
theorem dX0_takeFault_173 : decode cX0_takeFault 173 = .ok (.ladd, 1) := by decide +kernel
theorem dX0_takeFault_174 : decode cX0_takeFault 174 = .ok (.invokevirtual 34, 3) := by decide +kernel
theorem dX0_takeFault_177 : decode cX0_takeFault 177 = .ok (.aload_n 0, 1) := by decide +kernel
theorem dX0_takeFault_178 : decode cX0_takeFault 178 = .ok (.getfield 21, 3) := by decide +kernel
theorem dX0_takeFault_181 : decode cX0_takeFault 181 = .ok (.lconst 0, 1) := by decide +kernel
theorem dX0_takeFault_182 : decode cX0_takeFault 182 = .ok (.lcmp, 1) := by decide +kernel
theorem dX0_takeFault_183 : decode cX0_takeFault 183 = .ok (.ifCond .le 7, 3) := by decide +kernel
theorem dX0_takeFault_186 : decode cX0_takeFault 186 = .ok (.iconst 1, 1) := by decide +kernel
theorem dX0_takeFault_187 : decode cX0_takeFault 187 = .ok (.goto 4, 3) := by decide +kernel
theorem dX0_takeFault_190 : decode cX0_takeFault 190 = .ok (.iconst 0, 1) := by decide +kernel
theorem dX0_takeFault_191 : decode cX0_takeFault 191 = .ok (.ireturn, 1) := by decide +kernel
set_option maxRecDepth 20000 in
theorem ggX0_becomeVoltage_X2_ohmsUpTo : GoodIn wsX0_becomeVoltage wsX2_ohmsUpTo := goodIn_r _ [10, 11, 12, 22, 23, 24, 25, 26] (by decide +kernel) (by decide +kernel)
set_option maxRecDepth 20000 in
theorem gX0_becomeVoltage_X2_ohmsUpTo : GoodIn wsX0_becomeVoltage (wsV RX0 30 RX2 yX2_ohmsUpTo wsX2_ohmsUpTo) := goodIn_app (goodIn_of _ (by decide +kernel)) ggX0_becomeVoltage_X2_ohmsUpTo
set_option maxRecDepth 20000 in
theorem ggX0_becomeVoltage_X0_become : GoodIn wsX0_becomeVoltage wsX0_become := goodIn_r _ [17, 1, 4, 5, 3, 18, 19, 20, 21] (by decide +kernel) (by decide +kernel)
set_option maxRecDepth 20000 in
theorem gX0_becomeVoltage_X0_become : GoodIn wsX0_becomeVoltage (wsV RX0 34 RX0 yX0_become wsX0_become) := goodIn_app (goodIn_of _ (by decide +kernel)) ggX0_becomeVoltage_X0_become
theorem dX0_becomeVoltage_0 : decode cX0_becomeVoltage 0 = .ok (.aload_n 1, 1) := by decide +kernel
theorem dX0_becomeVoltage_1 : decode cX0_becomeVoltage 1 = .ok (.iload_n 3, 1) := by decide +kernel
theorem dX0_becomeVoltage_2 : decode cX0_becomeVoltage 2 = .ok (.iconst 0, 1) := by decide +kernel
theorem dX0_becomeVoltage_3 : decode cX0_becomeVoltage 3 = .ok (.invokevirtual 30, 3) := by decide +kernel
theorem dX0_becomeVoltage_6 : decode cX0_becomeVoltage 6 = .ok (.i2l, 1) := by decide +kernel
theorem dX0_becomeVoltage_7 : decode cX0_becomeVoltage 7 = .ok (.lstore 4, 2) := by decide +kernel
theorem dX0_becomeVoltage_9 : decode cX0_becomeVoltage 9 = .ok (.aload_n 1, 1) := by decide +kernel
theorem dX0_becomeVoltage_10 : decode cX0_becomeVoltage 10 = .ok (.iload_n 3, 1) := by decide +kernel
theorem dX0_becomeVoltage_11 : decode cX0_becomeVoltage 11 = .ok (.iconst 1, 1) := by decide +kernel
theorem dX0_becomeVoltage_12 : decode cX0_becomeVoltage 12 = .ok (.invokevirtual 30, 3) := by decide +kernel
theorem dX0_becomeVoltage_15 : decode cX0_becomeVoltage 15 = .ok (.i2l, 1) := by decide +kernel
theorem dX0_becomeVoltage_16 : decode cX0_becomeVoltage 16 = .ok (.lstore 6, 2) := by decide +kernel
theorem dX0_becomeVoltage_18 : decode cX0_becomeVoltage 18 = .ok (.aload_n 1, 1) := by decide +kernel
theorem dX0_becomeVoltage_19 : decode cX0_becomeVoltage 19 = .ok (.iload_n 3, 1) := by decide +kernel
theorem dX0_becomeVoltage_20 : decode cX0_becomeVoltage 20 = .ok (.iconst 2, 1) := by decide +kernel
theorem dX0_becomeVoltage_21 : decode cX0_becomeVoltage 21 = .ok (.invokevirtual 30, 3) := by decide +kernel
theorem dX0_becomeVoltage_24 : decode cX0_becomeVoltage 24 = .ok (.i2l, 1) := by decide +kernel
theorem dX0_becomeVoltage_25 : decode cX0_becomeVoltage 25 = .ok (.lstore 8, 2) := by decide +kernel
theorem dX0_becomeVoltage_27 : decode cX0_becomeVoltage 27 = .ok (.aload_n 0, 1) := by decide +kernel
theorem dX0_becomeVoltage_28 : decode cX0_becomeVoltage 28 = .ok (.lload 4, 2) := by decide +kernel
theorem dX0_becomeVoltage_30 : decode cX0_becomeVoltage 30 = .ok (.lneg, 1) := by decide +kernel
theorem dX0_becomeVoltage_31 : decode cX0_becomeVoltage 31 = .ok (.aload_n 2, 1) := by decide +kernel
theorem dX0_becomeVoltage_32 : decode cX0_becomeVoltage 32 = .ok (.getfield 9, 3) := by decide +kernel
theorem dX0_becomeVoltage_35 : decode cX0_becomeVoltage 35 = .ok (.lmul, 1) := by decide +kernel
theorem dX0_becomeVoltage_36 : decode cX0_becomeVoltage 36 = .ok (.aload_n 1, 1) := by decide +kernel
theorem dX0_becomeVoltage_37 : decode cX0_becomeVoltage 37 = .ok (.getfield 24, 3) := by decide +kernel
theorem dX0_becomeVoltage_40 : decode cX0_becomeVoltage 40 = .ok (.i2l, 1) := by decide +kernel
theorem dX0_becomeVoltage_41 : decode cX0_becomeVoltage 41 = .ok (.aload_n 2, 1) := by decide +kernel
theorem dX0_becomeVoltage_42 : decode cX0_becomeVoltage 42 = .ok (.getfield 21, 3) := by decide +kernel
theorem dX0_becomeVoltage_45 : decode cX0_becomeVoltage 45 = .ok (.lmul, 1) := by decide +kernel
theorem dX0_becomeVoltage_46 : decode cX0_becomeVoltage 46 = .ok (.lload 6, 2) := by decide +kernel
theorem dX0_becomeVoltage_48 : decode cX0_becomeVoltage 48 = .ok (.aload_n 2, 1) := by decide +kernel
theorem dX0_becomeVoltage_49 : decode cX0_becomeVoltage 49 = .ok (.getfield 15, 3) := by decide +kernel
theorem dX0_becomeVoltage_52 : decode cX0_becomeVoltage 52 = .ok (.lmul, 1) := by decide +kernel
theorem dX0_becomeVoltage_53 : decode cX0_becomeVoltage 53 = .ok (.lsub, 1) := by decide +kernel
theorem dX0_becomeVoltage_54 : decode cX0_becomeVoltage 54 = .ok (.lload 8, 2) := by decide +kernel
theorem dX0_becomeVoltage_56 : decode cX0_becomeVoltage 56 = .ok (.lneg, 1) := by decide +kernel
theorem dX0_becomeVoltage_57 : decode cX0_becomeVoltage 57 = .ok (.aload_n 2, 1) := by decide +kernel
theorem dX0_becomeVoltage_58 : decode cX0_becomeVoltage 58 = .ok (.getfield 18, 3) := by decide +kernel
theorem dX0_becomeVoltage_61 : decode cX0_becomeVoltage 61 = .ok (.lmul, 1) := by decide +kernel
theorem dX0_becomeVoltage_62 : decode cX0_becomeVoltage 62 = .ok (.aload_n 2, 1) := by decide +kernel
theorem dX0_becomeVoltage_63 : decode cX0_becomeVoltage 63 = .ok (.getfield 21, 3) := by decide +kernel
theorem dX0_becomeVoltage_66 : decode cX0_becomeVoltage 66 = .ok (.invokevirtual 34, 3) := by decide +kernel
theorem dX0_becomeVoltage_69 : decode cX0_becomeVoltage 69 = .ok (.return_, 1) := by decide +kernel
theorem dX0_a_0 : decode cX0_a 0 = .ok (.iload_n 1, 1) := by decide +kernel
theorem dX0_a_1 : decode cX0_a 1 = .ok (.ifCond .ne 18, 3) := by decide +kernel
theorem dX0_a_4 : decode cX0_a 4 = .ok (.aload_n 0, 1) := by decide +kernel
theorem dX0_a_5 : decode cX0_a 5 = .ok (.getfield 9, 3) := by decide +kernel
theorem dX0_a_8 : decode cX0_a 8 = .ok (.aload_n 0, 1) := by decide +kernel
theorem dX0_a_9 : decode cX0_a 9 = .ok (.getfield 15, 3) := by decide +kernel
theorem dX0_a_12 : decode cX0_a 12 = .ok (.ladd, 1) := by decide +kernel
theorem dX0_a_13 : decode cX0_a 13 = .ok (.aload_n 0, 1) := by decide +kernel
theorem dX0_a_14 : decode cX0_a 14 = .ok (.getfield 18, 3) := by decide +kernel
theorem dX0_a_17 : decode cX0_a 17 = .ok (.ladd, 1) := by decide +kernel
theorem dX0_a_18 : decode cX0_a 18 = .ok (.lreturn, 1) := by decide +kernel
theorem dX0_a_19 : decode cX0_a 19 = .ok (.iload_n 1, 1) := by decide +kernel
theorem dX0_a_20 : decode cX0_a 20 = .ok (.iconst 1, 1) := by decide +kernel
theorem dX0_a_21 : decode cX0_a 21 = .ok (.if_icmp .ne 15, 3) := by decide +kernel
theorem dX0_a_24 : decode cX0_a 24 = .ok (.aload_n 0, 1) := by decide +kernel
theorem dX0_a_25 : decode cX0_a 25 = .ok (.getfield 9, 3) := by decide +kernel
theorem dX0_a_28 : decode cX0_a 28 = .ok (.aload_n 0, 1) := by decide +kernel
theorem dX0_a_29 : decode cX0_a 29 = .ok (.getfield 15, 3) := by decide +kernel
theorem dX0_a_32 : decode cX0_a 32 = .ok (.lsub, 1) := by decide +kernel
theorem dX0_a_33 : decode cX0_a 33 = .ok (.goto 12, 3) := by decide +kernel
theorem dX0_a_36 : decode cX0_a 36 = .ok (.aload_n 0, 1) := by decide +kernel
theorem dX0_a_37 : decode cX0_a 37 = .ok (.getfield 9, 3) := by decide +kernel
theorem dX0_a_40 : decode cX0_a 40 = .ok (.aload_n 0, 1) := by decide +kernel
theorem dX0_a_41 : decode cX0_a 41 = .ok (.getfield 18, 3) := by decide +kernel
theorem dX0_a_44 : decode cX0_a 44 = .ok (.lsub, 1) := by decide +kernel
theorem dX0_a_45 : decode cX0_a 45 = .ok (.lreturn, 1) := by decide +kernel
theorem dX0_b_0 : decode cX0_b 0 = .ok (.iload_n 1, 1) := by decide +kernel
theorem dX0_b_1 : decode cX0_b 1 = .ok (.ifCond .ne 5, 3) := by decide +kernel
theorem dX0_b_4 : decode cX0_b 4 = .ok (.lconst 0, 1) := by decide +kernel
theorem dX0_b_5 : decode cX0_b 5 = .ok (.lreturn, 1) := by decide +kernel
theorem dX0_b_6 : decode cX0_b 6 = .ok (.iload_n 1, 1) := by decide +kernel
theorem dX0_b_7 : decode cX0_b 7 = .ok (.iconst 1, 1) := by decide +kernel
theorem dX0_b_8 : decode cX0_b 8 = .ok (.if_icmp .ne 15, 3) := by decide +kernel
theorem dX0_b_11 : decode cX0_b 11 = .ok (.aload_n 0, 1) := by decide +kernel
theorem dX0_b_12 : decode cX0_b 12 = .ok (.getfield 18, 3) := by decide +kernel
theorem dX0_b_15 : decode cX0_b 15 = .ok (.aload_n 0, 1) := by decide +kernel
theorem dX0_b_16 : decode cX0_b 16 = .ok (.getfield 15, 3) := by decide +kernel
theorem dX0_b_19 : decode cX0_b 19 = .ok (.lsub, 1) := by decide +kernel
theorem dX0_b_20 : decode cX0_b 20 = .ok (.goto 12, 3) := by decide +kernel
theorem dX0_b_23 : decode cX0_b 23 = .ok (.aload_n 0, 1) := by decide +kernel
theorem dX0_b_24 : decode cX0_b 24 = .ok (.getfield 15, 3) := by decide +kernel
theorem dX0_b_27 : decode cX0_b 27 = .ok (.aload_n 0, 1) := by decide +kernel
theorem dX0_b_28 : decode cX0_b 28 = .ok (.getfield 18, 3) := by decide +kernel
theorem dX0_b_31 : decode cX0_b 31 = .ok (.lsub, 1) := by decide +kernel
theorem dX0_b_32 : decode cX0_b 32 = .ok (.lreturn, 1) := by decide +kernel
set_option maxRecDepth 20000 in
theorem ggX0_norm_X0_a : GoodIn wsX0_norm wsX0_a := goodIn_r _ [5, 6, 7, 8, 13, 14, 15, 16] (by decide +kernel) (by decide +kernel)
set_option maxRecDepth 20000 in
theorem gX0_norm_X0_a : GoodIn wsX0_norm (wsV RX0 38 RX0 yX0_a wsX0_a) := goodIn_app (goodIn_of _ (by decide +kernel)) ggX0_norm_X0_a
set_option maxRecDepth 20000 in
theorem ggX0_norm_X0_b : GoodIn wsX0_norm wsX0_b := goodIn_r _ [12, 8, 7, 13, 14, 15, 16] (by decide +kernel) (by decide +kernel)
set_option maxRecDepth 20000 in
theorem gX0_norm_X0_b : GoodIn wsX0_norm (wsV RX0 42 RX0 yX0_b wsX0_b) := goodIn_app (goodIn_of _ (by decide +kernel)) ggX0_norm_X0_b
theorem dX0_norm_0 : decode cX0_norm 0 = .ok (.aload_n 0, 1) := by decide +kernel
theorem dX0_norm_1 : decode cX0_norm 1 = .ok (.iload_n 1, 1) := by decide +kernel
theorem dX0_norm_2 : decode cX0_norm 2 = .ok (.invokevirtual 38, 3) := by decide +kernel
theorem dX0_norm_5 : decode cX0_norm 5 = .ok (.lstore_n 2, 1) := by decide +kernel
theorem dX0_norm_6 : decode cX0_norm 6 = .ok (.aload_n 0, 1) := by decide +kernel
theorem dX0_norm_7 : decode cX0_norm 7 = .ok (.iload_n 1, 1) := by decide +kernel
theorem dX0_norm_8 : decode cX0_norm 8 = .ok (.invokevirtual 42, 3) := by decide +kernel
theorem dX0_norm_11 : decode cX0_norm 11 = .ok (.lstore 4, 2) := by decide +kernel
theorem dX0_norm_13 : decode cX0_norm 13 = .ok (.lload_n 2, 1) := by decide +kernel
theorem dX0_norm_14 : decode cX0_norm 14 = .ok (.lload_n 2, 1) := by decide +kernel
theorem dX0_norm_15 : decode cX0_norm 15 = .ok (.lmul, 1) := by decide +kernel
theorem dX0_norm_16 : decode cX0_norm 16 = .ok (.lload_n 2, 1) := by decide +kernel
theorem dX0_norm_17 : decode cX0_norm 17 = .ok (.lload 4, 2) := by decide +kernel
theorem dX0_norm_19 : decode cX0_norm 19 = .ok (.lmul, 1) := by decide +kernel
theorem dX0_norm_20 : decode cX0_norm 20 = .ok (.lsub, 1) := by decide +kernel
theorem dX0_norm_21 : decode cX0_norm 21 = .ok (.lload 4, 2) := by decide +kernel
theorem dX0_norm_23 : decode cX0_norm 23 = .ok (.lload 4, 2) := by decide +kernel
theorem dX0_norm_25 : decode cX0_norm 25 = .ok (.lmul, 1) := by decide +kernel
theorem dX0_norm_26 : decode cX0_norm 26 = .ok (.ladd, 1) := by decide +kernel
theorem dX0_norm_27 : decode cX0_norm 27 = .ok (.lreturn, 1) := by decide +kernel
set_option maxRecDepth 20000 in
theorem ggX0_greatestNorm_X0_norm : GoodIn wsX0_greatestNorm wsX0_norm := goodIn_r _ [9, 10, 11, 12, 8, 13, 14, 15, 16, 17, 18, 19, 20, 21, 22, 23, 24] (by decide +kernel) (by decide +kernel)
set_option maxRecDepth 20000 in
theorem gX0_greatestNorm_X0_norm : GoodIn wsX0_greatestNorm (wsV RX0 45 RX0 yX0_norm wsX0_norm) := goodIn_app (goodIn_of _ (by decide +kernel)) ggX0_greatestNorm_X0_norm
theorem dX0_greatestNorm_0 : decode cX0_greatestNorm 0 = .ok (.aload_n 0, 1) := by decide +kernel
theorem dX0_greatestNorm_1 : decode cX0_greatestNorm 1 = .ok (.iconst 0, 1) := by decide +kernel
theorem dX0_greatestNorm_2 : decode cX0_greatestNorm 2 = .ok (.invokevirtual 45, 3) := by decide +kernel
theorem dX0_greatestNorm_5 : decode cX0_greatestNorm 5 = .ok (.aload_n 0, 1) := by decide +kernel
theorem dX0_greatestNorm_6 : decode cX0_greatestNorm 6 = .ok (.iconst 1, 1) := by decide +kernel
theorem dX0_greatestNorm_7 : decode cX0_greatestNorm 7 = .ok (.invokevirtual 45, 3) := by decide +kernel
theorem dX0_greatestNorm_10 : decode cX0_greatestNorm 10 = .ok (.aload_n 0, 1) := by decide +kernel
theorem dX0_greatestNorm_11 : decode cX0_greatestNorm 11 = .ok (.iconst 2, 1) := by decide +kernel
theorem dX0_greatestNorm_12 : decode cX0_greatestNorm 12 = .ok (.invokevirtual 45, 3) := by decide +kernel
theorem dX0_greatestNorm_15 : decode cX0_greatestNorm 15 = .ok (.invokestatic 48, 3) := by decide +kernel
theorem dX0_greatestNorm_18 : decode cX0_greatestNorm 18 = .ok (.invokestatic 48, 3) := by decide +kernel
theorem dX0_greatestNorm_21 : decode cX0_greatestNorm 21 = .ok (.lreturn, 1) := by decide +kernel
set_option maxRecDepth 20000 in
theorem ggX0_leastNorm_X0_norm : GoodIn wsX0_leastNorm wsX0_norm := goodIn_r _ [9, 10, 11, 12, 8, 13, 14, 15, 16, 17, 18, 19, 20, 21, 22, 23, 24] (by decide +kernel) (by decide +kernel)
set_option maxRecDepth 20000 in
theorem gX0_leastNorm_X0_norm : GoodIn wsX0_leastNorm (wsV RX0 45 RX0 yX0_norm wsX0_norm) := goodIn_app (goodIn_of _ (by decide +kernel)) ggX0_leastNorm_X0_norm
theorem dX0_leastNorm_0 : decode cX0_leastNorm 0 = .ok (.aload_n 0, 1) := by decide +kernel
theorem dX0_leastNorm_1 : decode cX0_leastNorm 1 = .ok (.iconst 0, 1) := by decide +kernel
theorem dX0_leastNorm_2 : decode cX0_leastNorm 2 = .ok (.invokevirtual 45, 3) := by decide +kernel
theorem dX0_leastNorm_5 : decode cX0_leastNorm 5 = .ok (.aload_n 0, 1) := by decide +kernel
theorem dX0_leastNorm_6 : decode cX0_leastNorm 6 = .ok (.iconst 1, 1) := by decide +kernel
theorem dX0_leastNorm_7 : decode cX0_leastNorm 7 = .ok (.invokevirtual 45, 3) := by decide +kernel
theorem dX0_leastNorm_10 : decode cX0_leastNorm 10 = .ok (.aload_n 0, 1) := by decide +kernel
theorem dX0_leastNorm_11 : decode cX0_leastNorm 11 = .ok (.iconst 2, 1) := by decide +kernel
theorem dX0_leastNorm_12 : decode cX0_leastNorm 12 = .ok (.invokevirtual 45, 3) := by decide +kernel
theorem dX0_leastNorm_15 : decode cX0_leastNorm 15 = .ok (.invokestatic 54, 3) := by decide +kernel
theorem dX0_leastNorm_18 : decode cX0_leastNorm 18 = .ok (.invokestatic 54, 3) := by decide +kernel
theorem dX0_leastNorm_21 : decode cX0_leastNorm 21 = .ok (.lreturn, 1) := by decide +kernel
set_option maxRecDepth 20000 in
theorem ggX0_exceeds_X0_greatestNorm : GoodIn wsX0_exceeds wsX0_greatestNorm := goodIn_r _ [6, 7, 8, 9, 10, 11, 12, 13, 5, 14, 15, 16, 17, 18, 19, 20, 21, 22, 23, 24, 25, 26, 27, 28, 29] (by decide +kernel) (by decide +kernel)
set_option maxRecDepth 20000 in
theorem gX0_exceeds_X0_greatestNorm : GoodIn wsX0_exceeds (wsV RX0 57 RX0 yX0_greatestNorm wsX0_greatestNorm) := goodIn_app (goodIn_of _ (by decide +kernel)) ggX0_exceeds_X0_greatestNorm
theorem dX0_exceeds_0 : decode cX0_exceeds 0 = .ok (.aload_n 0, 1) := by decide +kernel
theorem dX0_exceeds_1 : decode cX0_exceeds 1 = .ok (.invokevirtual 57, 3) := by decide +kernel
theorem dX0_exceeds_4 : decode cX0_exceeds 4 = .ok (.lload_n 1, 1) := by decide +kernel
theorem dX0_exceeds_5 : decode cX0_exceeds 5 = .ok (.lload_n 1, 1) := by decide +kernel
theorem dX0_exceeds_6 : decode cX0_exceeds 6 = .ok (.lmul, 1) := by decide +kernel
theorem dX0_exceeds_7 : decode cX0_exceeds 7 = .ok (.aload_n 0, 1) := by decide +kernel
theorem dX0_exceeds_8 : decode cX0_exceeds 8 = .ok (.getfield 21, 3) := by decide +kernel
theorem dX0_exceeds_11 : decode cX0_exceeds 11 = .ok (.lmul, 1) := by decide +kernel
theorem dX0_exceeds_12 : decode cX0_exceeds 12 = .ok (.aload_n 0, 1) := by decide +kernel
theorem dX0_exceeds_13 : decode cX0_exceeds 13 = .ok (.getfield 21, 3) := by decide +kernel
theorem dX0_exceeds_16 : decode cX0_exceeds 16 = .ok (.lmul, 1) := by decide +kernel
theorem dX0_exceeds_17 : decode cX0_exceeds 17 = .ok (.lcmp, 1) := by decide +kernel
theorem dX0_exceeds_18 : decode cX0_exceeds 18 = .ok (.ifCond .le 7, 3) := by decide +kernel
theorem dX0_exceeds_21 : decode cX0_exceeds 21 = .ok (.iconst 1, 1) := by decide +kernel
theorem dX0_exceeds_22 : decode cX0_exceeds 22 = .ok (.goto 4, 3) := by decide +kernel
theorem dX0_exceeds_25 : decode cX0_exceeds 25 = .ok (.iconst 0, 1) := by decide +kernel
theorem dX0_exceeds_26 : decode cX0_exceeds 26 = .ok (.ireturn, 1) := by decide +kernel
set_option maxRecDepth 20000 in
theorem ggX0_sagsBelow_X0_leastNorm : GoodIn wsX0_sagsBelow wsX0_leastNorm := goodIn_r _ [7, 8, 9, 10, 11, 12, 13, 14, 6, 15, 16, 17, 18, 19, 20, 21, 22, 23, 24, 25, 26, 27, 28, 29, 30] (by decide +kernel) (by decide +kernel)
set_option maxRecDepth 20000 in
theorem gX0_sagsBelow_X0_leastNorm : GoodIn wsX0_sagsBelow (wsV RX0 61 RX0 yX0_leastNorm wsX0_leastNorm) := goodIn_app (goodIn_of _ (by decide +kernel)) ggX0_sagsBelow_X0_leastNorm
theorem dX0_sagsBelow_0 : decode cX0_sagsBelow 0 = .ok (.aload_n 0, 1) := by decide +kernel
theorem dX0_sagsBelow_1 : decode cX0_sagsBelow 1 = .ok (.invokevirtual 61, 3) := by decide +kernel
theorem dX0_sagsBelow_4 : decode cX0_sagsBelow 4 = .ok (.ldc2_w 64, 3) := by decide +kernel
theorem dX0_sagsBelow_7 : decode cX0_sagsBelow 7 = .ok (.lmul, 1) := by decide +kernel
theorem dX0_sagsBelow_8 : decode cX0_sagsBelow 8 = .ok (.lload_n 1, 1) := by decide +kernel
theorem dX0_sagsBelow_9 : decode cX0_sagsBelow 9 = .ok (.lload_n 1, 1) := by decide +kernel
theorem dX0_sagsBelow_10 : decode cX0_sagsBelow 10 = .ok (.lmul, 1) := by decide +kernel
theorem dX0_sagsBelow_11 : decode cX0_sagsBelow 11 = .ok (.lload_n 3, 1) := by decide +kernel
theorem dX0_sagsBelow_12 : decode cX0_sagsBelow 12 = .ok (.lmul, 1) := by decide +kernel
theorem dX0_sagsBelow_13 : decode cX0_sagsBelow 13 = .ok (.lload_n 3, 1) := by decide +kernel
theorem dX0_sagsBelow_14 : decode cX0_sagsBelow 14 = .ok (.lmul, 1) := by decide +kernel
theorem dX0_sagsBelow_15 : decode cX0_sagsBelow 15 = .ok (.aload_n 0, 1) := by decide +kernel
theorem dX0_sagsBelow_16 : decode cX0_sagsBelow 16 = .ok (.getfield 21, 3) := by decide +kernel
theorem dX0_sagsBelow_19 : decode cX0_sagsBelow 19 = .ok (.lmul, 1) := by decide +kernel
theorem dX0_sagsBelow_20 : decode cX0_sagsBelow 20 = .ok (.aload_n 0, 1) := by decide +kernel
theorem dX0_sagsBelow_21 : decode cX0_sagsBelow 21 = .ok (.getfield 21, 3) := by decide +kernel
theorem dX0_sagsBelow_24 : decode cX0_sagsBelow 24 = .ok (.lmul, 1) := by decide +kernel
theorem dX0_sagsBelow_25 : decode cX0_sagsBelow 25 = .ok (.lcmp, 1) := by decide +kernel
theorem dX0_sagsBelow_26 : decode cX0_sagsBelow 26 = .ok (.ifCond .ge 7, 3) := by decide +kernel
theorem dX0_sagsBelow_29 : decode cX0_sagsBelow 29 = .ok (.iconst 1, 1) := by decide +kernel
theorem dX0_sagsBelow_30 : decode cX0_sagsBelow 30 = .ok (.goto 4, 3) := by decide +kernel
theorem dX0_sagsBelow_33 : decode cX0_sagsBelow 33 = .ok (.iconst 0, 1) := by decide +kernel
theorem dX0_sagsBelow_34 : decode cX0_sagsBelow 34 = .ok (.ireturn, 1) := by decide +kernel
set_option maxRecDepth 20000 in
theorem ggX0_isAs_X0_a : GoodIn wsX0_isAs wsX0_a := goodIn_r _ [8, 9, 10, 11, 26, 27, 28, 29] (by decide +kernel) (by decide +kernel)
set_option maxRecDepth 20000 in
theorem gX0_isAs_X0_a : GoodIn wsX0_isAs (wsV RX0 38 RX0 yX0_a wsX0_a) := goodIn_app (goodIn_of _ (by decide +kernel)) ggX0_isAs_X0_a
set_option maxRecDepth 20000 in
theorem ggX0_isAs_X0_isFraction : GoodIn wsX0_isAs wsX0_isFraction := goodIn_r _ [15, 16, 17, 18, 30, 31, 32, 26, 27, 28, 29] (by decide +kernel) (by decide +kernel)
set_option maxRecDepth 20000 in
theorem gX0_isAs_X0_isFraction : GoodIn wsX0_isAs (wsV RX0 77 RX0 yX0_isFraction wsX0_isFraction) := goodIn_app (goodIn_of _ (by decide +kernel)) ggX0_isAs_X0_isFraction
set_option maxRecDepth 20000 in
theorem ggX0_isAs_X0_b : GoodIn wsX0_isAs wsX0_b := goodIn_r _ [22, 11, 10, 26, 27, 28, 29] (by decide +kernel) (by decide +kernel)
set_option maxRecDepth 20000 in
theorem gX0_isAs_X0_b : GoodIn wsX0_isAs (wsV RX0 42 RX0 yX0_b wsX0_b) := goodIn_app (goodIn_of _ (by decide +kernel)) ggX0_isAs_X0_b
theorem dX0_isAs_0 : decode cX0_isAs 0 = .ok (.iconst 1, 1) := by decide +kernel
theorem dX0_isAs_1 : decode cX0_isAs 1 = .ok (.istore_n 2, 1) := by decide +kernel
theorem dX0_isAs_2 : decode cX0_isAs 2 = .ok (.iconst 0, 1) := by decide +kernel
theorem dX0_isAs_3 : decode cX0_isAs 3 = .ok (.istore_n 3, 1) := by decide +kernel
theorem dX0_isAs_4 : decode cX0_isAs 4 = .ok (.iload_n 3, 1) := by decide +kernel
theorem dX0_isAs_5 : decode cX0_isAs 5 = .ok (.iconst 3, 1) := by decide +kernel
theorem dX0_isAs_6 : decode cX0_isAs 6 = .ok (.if_icmp .ge 59, 3) := by decide +kernel
theorem dX0_isAs_9 : decode cX0_isAs 9 = .ok (.aload_n 1, 1) := by decide +kernel
theorem dX0_isAs_10 : decode cX0_isAs 10 = .ok (.getfield 66, 3) := by decide +kernel
theorem dX0_isAs_13 : decode cX0_isAs 13 = .ok (.iload_n 3, 1) := by decide +kernel
theorem dX0_isAs_14 : decode cX0_isAs 14 = .ok (.aaload, 1) := by decide +kernel
theorem dX0_isAs_15 : decode cX0_isAs 15 = .ok (.astore 4, 2) := by decide +kernel
theorem dX0_isAs_17 : decode cX0_isAs 17 = .ok (.iload_n 2, 1) := by decide +kernel
theorem dX0_isAs_18 : decode cX0_isAs 18 = .ok (.aload_n 0, 1) := by decide +kernel
theorem dX0_isAs_19 : decode cX0_isAs 19 = .ok (.aload_n 0, 1) := by decide +kernel
theorem dX0_isAs_20 : decode cX0_isAs 20 = .ok (.iload_n 3, 1) := by decide +kernel
theorem dX0_isAs_21 : decode cX0_isAs 21 = .ok (.invokevirtual 38, 3) := by decide +kernel
theorem dX0_isAs_24 : decode cX0_isAs 24 = .ok (.aload 4, 2) := by decide +kernel
theorem dX0_isAs_26 : decode cX0_isAs 26 = .ok (.getfield 72, 3) := by decide +kernel
theorem dX0_isAs_29 : decode cX0_isAs 29 = .ok (.invokevirtual 77, 3) := by decide +kernel
theorem dX0_isAs_32 : decode cX0_isAs 32 = .ok (.ifCond .eq 24, 3) := by decide +kernel
theorem dX0_isAs_35 : decode cX0_isAs 35 = .ok (.aload_n 0, 1) := by decide +kernel
theorem dX0_isAs_36 : decode cX0_isAs 36 = .ok (.aload_n 0, 1) := by decide +kernel
theorem dX0_isAs_37 : decode cX0_isAs 37 = .ok (.iload_n 3, 1) := by decide +kernel
theorem dX0_isAs_38 : decode cX0_isAs 38 = .ok (.invokevirtual 42, 3) := by decide +kernel
theorem dX0_isAs_41 : decode cX0_isAs 41 = .ok (.aload 4, 2) := by decide +kernel
theorem dX0_isAs_43 : decode cX0_isAs 43 = .ok (.getfield 81, 3) := by decide +kernel
theorem dX0_isAs_46 : decode cX0_isAs 46 = .ok (.invokevirtual 77, 3) := by decide +kernel
theorem dX0_isAs_49 : decode cX0_isAs 49 = .ok (.ifCond .eq 7, 3) := by decide +kernel
theorem dX0_isAs_52 : decode cX0_isAs 52 = .ok (.iconst 1, 1) := by decide +kernel
theorem dX0_isAs_53 : decode cX0_isAs 53 = .ok (.goto 4, 3) := by decide +kernel
theorem dX0_isAs_56 : decode cX0_isAs 56 = .ok (.iconst 0, 1) := by decide +kernel
theorem dX0_isAs_57 : decode cX0_isAs 57 = .ok (.iand, 1) := by decide +kernel
theorem dX0_isAs_58 : decode cX0_isAs 58 = .ok (.istore_n 2, 1) := by decide +kernel
theorem dX0_isAs_59 : decode cX0_isAs 59 = .ok (.iinc 3 1, 3) := by decide +kernel
theorem dX0_isAs_62 : decode cX0_isAs 62 = .ok (.goto (-58), 3) := by decide +kernel
theorem dX0_isAs_65 : decode cX0_isAs 65 = .ok (.iload_n 2, 1) := by decide +kernel
theorem dX0_isAs_66 : decode cX0_isAs 66 = .ok (.ireturn, 1) := by decide +kernel
theorem dX0_isFraction_0 : decode cX0_isFraction 0 = .ok (.lload_n 1, 1) := by decide +kernel
theorem dX0_isFraction_1 : decode cX0_isFraction 1 = .ok (.aload_n 3, 1) := by decide +kernel
theorem dX0_isFraction_2 : decode cX0_isFraction 2 = .ok (.getfield 83, 3) := by decide +kernel
theorem dX0_isFraction_5 : decode cX0_isFraction 5 = .ok (.lmul, 1) := by decide +kernel
theorem dX0_isFraction_6 : decode cX0_isFraction 6 = .ok (.aload_n 3, 1) := by decide +kernel
theorem dX0_isFraction_7 : decode cX0_isFraction 7 = .ok (.getfield 86, 3) := by decide +kernel
theorem dX0_isFraction_10 : decode cX0_isFraction 10 = .ok (.aload_n 0, 1) := by decide +kernel
theorem dX0_isFraction_11 : decode cX0_isFraction 11 = .ok (.getfield 21, 3) := by decide +kernel
theorem dX0_isFraction_14 : decode cX0_isFraction 14 = .ok (.lmul, 1) := by decide +kernel
theorem dX0_isFraction_15 : decode cX0_isFraction 15 = .ok (.lcmp, 1) := by decide +kernel
theorem dX0_isFraction_16 : decode cX0_isFraction 16 = .ok (.ifCond .ne 7, 3) := by decide +kernel
theorem dX0_isFraction_19 : decode cX0_isFraction 19 = .ok (.iconst 1, 1) := by decide +kernel
theorem dX0_isFraction_20 : decode cX0_isFraction 20 = .ok (.goto 4, 3) := by decide +kernel
theorem dX0_isFraction_23 : decode cX0_isFraction 23 = .ok (.iconst 0, 1) := by decide +kernel
theorem dX0_isFraction_24 : decode cX0_isFraction 24 = .ok (.ireturn, 1) := by decide +kernel
set_option maxRecDepth 20000 in
theorem ggX0_tell_X0_norm : GoodIn wsX0_tell wsX0_norm := goodIn_r _ [6, 7, 8, 9, 5, 10, 11, 12, 13, 14, 15, 16, 17, 26, 27, 28, 29] (by decide +kernel) (by decide +kernel)
set_option maxRecDepth 20000 in
theorem gX0_tell_X0_norm : GoodIn wsX0_tell (wsV RX0 45 RX0 yX0_norm wsX0_norm) := goodIn_app (goodIn_of _ (by decide +kernel)) ggX0_tell_X0_norm
set_option maxRecDepth 20000 in
theorem ggX0_tell_X0_tellFraction : GoodIn wsX0_tell wsX0_tellFraction := goodIn_r _ [20, 21, 22, 23, 24, 25] (by decide +kernel) (by decide +kernel)
set_option maxRecDepth 20000 in
theorem gX0_tell_X0_tellFraction : GoodIn wsX0_tell (va_wsS RX0 89 yX0_tellFraction wsX0_tellFraction) := goodIn_app (goodIn_of _ (by decide +kernel)) ggX0_tell_X0_tellFraction
set_option maxRecDepth 20000 in
theorem ggX0_tell_X0_a : GoodIn wsX0_tell wsX0_a := goodIn_r _ [10, 11, 12, 13, 26, 27, 28, 29] (by decide +kernel) (by decide +kernel)
set_option maxRecDepth 20000 in
theorem gX0_tell_X0_a : GoodIn wsX0_tell (wsV RX0 38 RX0 yX0_a wsX0_a) := goodIn_app (goodIn_of _ (by decide +kernel)) ggX0_tell_X0_a
set_option maxRecDepth 20000 in
theorem ggX0_tell_X0_b : GoodIn wsX0_tell wsX0_b := goodIn_r _ [17, 13, 12, 26, 27, 28, 29] (by decide +kernel) (by decide +kernel)
set_option maxRecDepth 20000 in
theorem gX0_tell_X0_b : GoodIn wsX0_tell (wsV RX0 42 RX0 yX0_b wsX0_b) := goodIn_app (goodIn_of _ (by decide +kernel)) ggX0_tell_X0_b
theorem dX0_tell_0 : decode cX0_tell 0 = .ok (.iload_n 2, 1) := by decide +kernel
theorem dX0_tell_1 : decode cX0_tell 1 = .ok (.iconst 2, 1) := by decide +kernel
theorem dX0_tell_2 : decode cX0_tell 2 = .ok (.if_icmp .ne 22, 3) := by decide +kernel
theorem dX0_tell_5 : decode cX0_tell 5 = .ok (.aload_n 0, 1) := by decide +kernel
theorem dX0_tell_6 : decode cX0_tell 6 = .ok (.iload_n 1, 1) := by decide +kernel
theorem dX0_tell_7 : decode cX0_tell 7 = .ok (.invokevirtual 45, 3) := by decide +kernel
theorem dX0_tell_10 : decode cX0_tell 10 = .ok (.aload_n 0, 1) := by decide +kernel
theorem dX0_tell_11 : decode cX0_tell 11 = .ok (.getfield 21, 3) := by decide +kernel
theorem dX0_tell_14 : decode cX0_tell 14 = .ok (.aload_n 0, 1) := by decide +kernel
theorem dX0_tell_15 : decode cX0_tell 15 = .ok (.getfield 21, 3) := by decide +kernel
theorem dX0_tell_18 : decode cX0_tell 18 = .ok (.lmul, 1) := by decide +kernel
theorem dX0_tell_19 : decode cX0_tell 19 = .ok (.iload_n 3, 1) := by decide +kernel
theorem dX0_tell_20 : decode cX0_tell 20 = .ok (.invokestatic 89, 3) := by decide +kernel
theorem dX0_tell_23 : decode cX0_tell 23 = .ok (.lreturn, 1) := by decide +kernel
theorem dX0_tell_24 : decode cX0_tell 24 = .ok (.iload_n 2, 1) := by decide +kernel
theorem dX0_tell_25 : decode cX0_tell 25 = .ok (.ifCond .ne 11, 3) := by decide +kernel
theorem dX0_tell_28 : decode cX0_tell 28 = .ok (.aload_n 0, 1) := by decide +kernel
theorem dX0_tell_29 : decode cX0_tell 29 = .ok (.iload_n 1, 1) := by decide +kernel
theorem dX0_tell_30 : decode cX0_tell 30 = .ok (.invokevirtual 38, 3) := by decide +kernel
theorem dX0_tell_33 : decode cX0_tell 33 = .ok (.goto 8, 3) := by decide +kernel
theorem dX0_tell_36 : decode cX0_tell 36 = .ok (.aload_n 0, 1) := by decide +kernel
theorem dX0_tell_37 : decode cX0_tell 37 = .ok (.iload_n 1, 1) := by decide +kernel
theorem dX0_tell_38 : decode cX0_tell 38 = .ok (.invokevirtual 42, 3) := by decide +kernel
theorem dX0_tell_41 : decode cX0_tell 41 = .ok (.aload_n 0, 1) := by decide +kernel
theorem dX0_tell_42 : decode cX0_tell 42 = .ok (.getfield 21, 3) := by decide +kernel
theorem dX0_tell_45 : decode cX0_tell 45 = .ok (.iload_n 3, 1) := by decide +kernel
theorem dX0_tell_46 : decode cX0_tell 46 = .ok (.invokestatic 89, 3) := by decide +kernel
theorem dX0_tell_49 : decode cX0_tell 49 = .ok (.lreturn, 1) := by decide +kernel
set_option maxRecDepth 20000 in
theorem ggX0_tellFraction_X1_divisorOf : GoodIn wsX0_tellFraction wsX1_divisorOf := goodIn_r _ [5] (by decide +kernel) (by decide +kernel)
set_option maxRecDepth 20000 in
theorem gX0_tellFraction_X1_divisorOf : GoodIn wsX0_tellFraction (va_wsS RX0 93 yX1_divisorOf wsX1_divisorOf) := goodIn_app (goodIn_of _ (by decide +kernel)) ggX0_tellFraction_X1_divisorOf
theorem dX0_tellFraction_0 : decode cX0_tellFraction 0 = .ok (.lload_n 0, 1) := by decide +kernel
theorem dX0_tellFraction_1 : decode cX0_tellFraction 1 = .ok (.lload_n 2, 1) := by decide +kernel
theorem dX0_tellFraction_2 : decode cX0_tellFraction 2 = .ok (.invokestatic 93, 3) := by decide +kernel
theorem dX0_tellFraction_5 : decode cX0_tellFraction 5 = .ok (.lstore 5, 2) := by decide +kernel
theorem dX0_tellFraction_7 : decode cX0_tellFraction 7 = .ok (.lload 5, 2) := by decide +kernel
theorem dX0_tellFraction_9 : decode cX0_tellFraction 9 = .ok (.lconst 1, 1) := by decide +kernel
theorem dX0_tellFraction_10 : decode cX0_tellFraction 10 = .ok (.lcmp, 1) := by decide +kernel
theorem dX0_tellFraction_11 : decode cX0_tellFraction 11 = .ok (.ifCond .ge 7, 3) := by decide +kernel
theorem dX0_tellFraction_14 : decode cX0_tellFraction 14 = .ok (.ldc2_w 96, 3) := by decide +kernel
theorem dX0_tellFraction_17 : decode cX0_tellFraction 17 = .ok (.lreturn, 1) := by decide +kernel
theorem dX0_tellFraction_18 : decode cX0_tellFraction 18 = .ok (.iload 4, 2) := by decide +kernel
theorem dX0_tellFraction_20 : decode cX0_tellFraction 20 = .ok (.ifCond .ne 10, 3) := by decide +kernel
theorem dX0_tellFraction_23 : decode cX0_tellFraction 23 = .ok (.lload_n 0, 1) := by decide +kernel
theorem dX0_tellFraction_24 : decode cX0_tellFraction 24 = .ok (.lload 5, 2) := by decide +kernel
theorem dX0_tellFraction_26 : decode cX0_tellFraction 26 = .ok (.ldiv, 1) := by decide +kernel
theorem dX0_tellFraction_27 : decode cX0_tellFraction 27 = .ok (.goto 7, 3) := by decide +kernel
theorem dX0_tellFraction_30 : decode cX0_tellFraction 30 = .ok (.lload_n 2, 1) := by decide +kernel
theorem dX0_tellFraction_31 : decode cX0_tellFraction 31 = .ok (.lload 5, 2) := by decide +kernel
theorem dX0_tellFraction_33 : decode cX0_tellFraction 33 = .ok (.ldiv, 1) := by decide +kernel
theorem dX0_tellFraction_34 : decode cX0_tellFraction 34 = .ok (.lreturn, 1) := by decide +kernel
theorem dX1_init_0 : decode cX1_init 0 = .ok (.aload_n 0, 1) := by decide +kernel
theorem dX1_init_1 : decode cX1_init 1 = .ok (.invokespecial 3, 3) := by decide +kernel
theorem dX1_init_4 : decode cX1_init 4 = .ok (.aload_n 0, 1) := by decide +kernel
theorem dX1_init_5 : decode cX1_init 5 = .ok (.lconst 0, 1) := by decide +kernel
theorem dX1_init_6 : decode cX1_init 6 = .ok (.putfield 9, 3) := by decide +kernel
theorem dX1_init_9 : decode cX1_init 9 = .ok (.aload_n 0, 1) := by decide +kernel
theorem dX1_init_10 : decode cX1_init 10 = .ok (.lconst 1, 1) := by decide +kernel
theorem dX1_init_11 : decode cX1_init 11 = .ok (.putfield 15, 3) := by decide +kernel
theorem dX1_init_14 : decode cX1_init 14 = .ok (.aload_n 0, 1) := by decide +kernel
theorem dX1_init_15 : decode cX1_init 15 = .ok (.iconst 0, 1) := by decide +kernel
theorem dX1_init_16 : decode cX1_init 16 = .ok (.putfield 18, 3) := by decide +kernel
theorem dX1_init_19 : decode cX1_init 19 = .ok (.return_, 1) := by decide +kernel
theorem dX1_divisorOf_0 : decode cX1_divisorOf 0 = .ok (.lload_n 0, 1) := by decide +kernel
theorem dX1_divisorOf_1 : decode cX1_divisorOf 1 = .ok (.lconst 0, 1) := by decide +kernel
theorem dX1_divisorOf_2 : decode cX1_divisorOf 2 = .ok (.lcmp, 1) := by decide +kernel
theorem dX1_divisorOf_3 : decode cX1_divisorOf 3 = .ok (.ifCond .ge 8, 3) := by decide +kernel
theorem dX1_divisorOf_6 : decode cX1_divisorOf 6 = .ok (.lload_n 0, 1) := by decide +kernel
theorem dX1_divisorOf_7 : decode cX1_divisorOf 7 = .ok (.lneg, 1) := by decide +kernel
theorem dX1_divisorOf_8 : decode cX1_divisorOf 8 = .ok (.goto 4, 3) := by decide +kernel
theorem dX1_divisorOf_11 : decode cX1_divisorOf 11 = .ok (.lload_n 0, 1) := by decide +kernel
theorem dX1_divisorOf_12 : decode cX1_divisorOf 12 = .ok (.lstore 4, 2) := by decide +kernel
theorem dX1_divisorOf_14 : decode cX1_divisorOf 14 = .ok (.lload_n 2, 1) := by decide +kernel
theorem dX1_divisorOf_15 : decode cX1_divisorOf 15 = .ok (.lconst 0, 1) := by decide +kernel
theorem dX1_divisorOf_16 : decode cX1_divisorOf 16 = .ok (.lcmp, 1) := by decide +kernel
theorem dX1_divisorOf_17 : decode cX1_divisorOf 17 = .ok (.ifCond .ge 8, 3) := by decide +kernel
theorem dX1_divisorOf_20 : decode cX1_divisorOf 20 = .ok (.lload_n 2, 1) := by decide +kernel
theorem dX1_divisorOf_21 : decode cX1_divisorOf 21 = .ok (.lneg, 1) := by decide +kernel
theorem dX1_divisorOf_22 : decode cX1_divisorOf 22 = .ok (.goto 4, 3) := by decide +kernel
theorem dX1_divisorOf_25 : decode cX1_divisorOf 25 = .ok (.lload_n 2, 1) := by decide +kernel
theorem dX1_divisorOf_26 : decode cX1_divisorOf 26 = .ok (.lstore 6, 2) := by decide +kernel
theorem dX1_divisorOf_28 : decode cX1_divisorOf 28 = .ok (.iconst 0, 1) := by decide +kernel
theorem dX1_divisorOf_29 : decode cX1_divisorOf 29 = .ok (.istore 8, 2) := by decide +kernel
theorem dX1_divisorOf_31 : decode cX1_divisorOf 31 = .ok (.iload 8, 2) := by decide +kernel
theorem dX1_divisorOf_33 : decode cX1_divisorOf 33 = .ok (.bipush 100, 2) := by decide +kernel
theorem dX1_divisorOf_35 : decode cX1_divisorOf 35 = .ok (.if_icmp .ge 31, 3) := by decide +kernel
theorem dX1_divisorOf_38 : decode cX1_divisorOf 38 = .ok (.lload 6, 2) := by decide +kernel
theorem dX1_divisorOf_40 : decode cX1_divisorOf 40 = .ok (.lconst 0, 1) := by decide +kernel
theorem dX1_divisorOf_41 : decode cX1_divisorOf 41 = .ok (.lcmp, 1) := by decide +kernel
theorem dX1_divisorOf_42 : decode cX1_divisorOf 42 = .ok (.ifCond .eq 24, 3) := by decide +kernel
theorem dX1_divisorOf_45 : decode cX1_divisorOf 45 = .ok (.lload 4, 2) := by decide +kernel
theorem dX1_divisorOf_47 : decode cX1_divisorOf 47 = .ok (.lload 6, 2) := by decide +kernel
theorem dX1_divisorOf_49 : decode cX1_divisorOf 49 = .ok (.lrem, 1) := by decide +kernel
theorem dX1_divisorOf_50 : decode cX1_divisorOf 50 = .ok (.lstore 9, 2) := by decide +kernel
theorem dX1_divisorOf_52 : decode cX1_divisorOf 52 = .ok (.lload 6, 2) := by decide +kernel
theorem dX1_divisorOf_54 : decode cX1_divisorOf 54 = .ok (.lstore 4, 2) := by decide +kernel
theorem dX1_divisorOf_56 : decode cX1_divisorOf 56 = .ok (.lload 9, 2) := by decide +kernel
theorem dX1_divisorOf_58 : decode cX1_divisorOf 58 = .ok (.lstore 6, 2) := by decide +kernel
theorem dX1_divisorOf_60 : decode cX1_divisorOf 60 = .ok (.iinc 8 1, 3) := by decide +kernel
theorem dX1_divisorOf_63 : decode cX1_divisorOf 63 = .ok (.goto (-32), 3) := by decide +kernel
theorem dX1_divisorOf_66 : decode cX1_divisorOf 66 = .ok (.lload 4, 2) := by decide +kernel
theorem dX1_divisorOf_68 : decode cX1_divisorOf 68 = .ok (.lconst 1, 1) := by decide +kernel
theorem dX1_divisorOf_69 : decode cX1_divisorOf 69 = .ok (.lcmp, 1) := by decide +kernel
theorem dX1_divisorOf_70 : decode cX1_divisorOf 70 = .ok (.ifCond .ge 7, 3) := by decide +kernel
theorem dX1_divisorOf_73 : decode cX1_divisorOf 73 = .ok (.lconst 1, 1) := by decide +kernel
theorem dX1_divisorOf_74 : decode cX1_divisorOf 74 = .ok (.goto 5, 3) := by decide +kernel
theorem dX1_divisorOf_77 : decode cX1_divisorOf 77 = .ok (.lload 4, 2) := by decide +kernel
theorem dX1_divisorOf_79 : decode cX1_divisorOf 79 = .ok (.lreturn, 1) := by decide +kernel
theorem dX1_become_0 : decode cX1_become 0 = .ok (.aload_n 0, 1) := by decide +kernel
theorem dX1_become_1 : decode cX1_become 1 = .ok (.aload_n 1, 1) := by decide +kernel
theorem dX1_become_2 : decode cX1_become 2 = .ok (.getfield 9, 3) := by decide +kernel
theorem dX1_become_5 : decode cX1_become 5 = .ok (.putfield 9, 3) := by decide +kernel
theorem dX1_become_8 : decode cX1_become 8 = .ok (.aload_n 0, 1) := by decide +kernel
theorem dX1_become_9 : decode cX1_become 9 = .ok (.aload_n 1, 1) := by decide +kernel
theorem dX1_become_10 : decode cX1_become 10 = .ok (.getfield 15, 3) := by decide +kernel
theorem dX1_become_13 : decode cX1_become 13 = .ok (.putfield 15, 3) := by decide +kernel
theorem dX1_become_16 : decode cX1_become 16 = .ok (.aload_n 0, 1) := by decide +kernel
theorem dX1_become_17 : decode cX1_become 17 = .ok (.aload_n 1, 1) := by decide +kernel
theorem dX1_become_18 : decode cX1_become 18 = .ok (.getfield 18, 3) := by decide +kernel
theorem dX1_become_21 : decode cX1_become 21 = .ok (.putfield 18, 3) := by decide +kernel
theorem dX1_become_24 : decode cX1_become 24 = .ok (.return_, 1) := by decide +kernel
set_option maxRecDepth 20000 in
theorem ggX1_become__X1_divisorOf : GoodIn wsX1_become_ wsX1_divisorOf := goodIn_r _ [9] (by decide +kernel) (by decide +kernel)
set_option maxRecDepth 20000 in
theorem gX1_become__X1_divisorOf : GoodIn wsX1_become_ (va_wsS RX1 22 yX1_divisorOf wsX1_divisorOf) := goodIn_app (goodIn_of _ (by decide +kernel)) ggX1_become__X1_divisorOf
set_option maxRecDepth 20000 in
theorem ggX1_become__X1_spoil : GoodIn wsX1_become_ wsX1_spoil := goodIn_r _ [13, 1, 2, 3, 14, 15, 16] (by decide +kernel) (by decide +kernel)
set_option maxRecDepth 20000 in
theorem gX1_become__X1_spoil : GoodIn wsX1_become_ (wsV RX1 26 RX1 yX1_spoil wsX1_spoil) := goodIn_app (goodIn_of _ (by decide +kernel)) ggX1_become__X1_spoil
theorem dX1_become__0 : decode cX1_become_ 0 = .ok (.lload_n 1, 1) := by decide +kernel
theorem dX1_become__1 : decode cX1_become_ 1 = .ok (.lload_n 3, 1) := by decide +kernel
theorem dX1_become__2 : decode cX1_become_ 2 = .ok (.invokestatic 22, 3) := by decide +kernel
theorem dX1_become__5 : decode cX1_become_ 5 = .ok (.lstore 5, 2) := by decide +kernel
theorem dX1_become__7 : decode cX1_become_ 7 = .ok (.lload_n 3, 1) := by decide +kernel
theorem dX1_become__8 : decode cX1_become_ 8 = .ok (.lconst 1, 1) := by decide +kernel
theorem dX1_become__9 : decode cX1_become_ 9 = .ok (.lcmp, 1) := by decide +kernel
theorem dX1_become__10 : decode cX1_become_ 10 = .ok (.ifCond .lt 10, 3) := by decide +kernel
theorem dX1_become__13 : decode cX1_become_ 13 = .ok (.lload 5, 2) := by decide +kernel
theorem dX1_become__15 : decode cX1_become_ 15 = .ok (.lconst 1, 1) := by decide +kernel
theorem dX1_become__16 : decode cX1_become_ 16 = .ok (.lcmp, 1) := by decide +kernel
theorem dX1_become__17 : decode cX1_become_ 17 = .ok (.ifCond .ge 8, 3) := by decide +kernel
theorem dX1_become__20 : decode cX1_become_ 20 = .ok (.aload_n 0, 1) := by decide +kernel
theorem dX1_become__21 : decode cX1_become_ 21 = .ok (.invokevirtual 26, 3) := by decide +kernel
theorem dX1_become__24 : decode cX1_become_ 24 = .ok (.return_, 1) := by decide +kernel
theorem dX1_become__25 : decode cX1_become_ 25 = .ok (.aload_n 0, 1) := by decide +kernel
theorem dX1_become__26 : decode cX1_become_ 26 = .ok (.lload_n 1, 1) := by decide +kernel
theorem dX1_become__27 : decode cX1_become_ 27 = .ok (.lload 5, 2) := by decide +kernel
theorem dX1_become__29 : decode cX1_become_ 29 = .ok (.ldiv, 1) := by decide +kernel
theorem dX1_become__30 : decode cX1_become_ 30 = .ok (.putfield 9, 3) := by decide +kernel
theorem dX1_become__33 : decode cX1_become_ 33 = .ok (.aload_n 0, 1) := by decide +kernel
theorem dX1_become__34 : decode cX1_become_ 34 = .ok (.lload_n 3, 1) := by decide +kernel
theorem dX1_become__35 : decode cX1_become_ 35 = .ok (.lload 5, 2) := by decide +kernel
theorem dX1_become__37 : decode cX1_become_ 37 = .ok (.ldiv, 1) := by decide +kernel
theorem dX1_become__38 : decode cX1_become_ 38 = .ok (.putfield 15, 3) := by decide +kernel
theorem dX1_become__41 : decode cX1_become_ 41 = .ok (.aload_n 0, 1) := by decide +kernel
theorem dX1_become__42 : decode cX1_become_ 42 = .ok (.iconst 0, 1) := by decide +kernel
theorem dX1_become__43 : decode cX1_become_ 43 = .ok (.putfield 18, 3) := by decide +kernel
theorem dX1_become__46 : decode cX1_become_ 46 = .ok (.aload_n 0, 1) := by decide +kernel
theorem dX1_become__47 : decode cX1_become_ 47 = .ok (.getfield 9, 3) := by decide +kernel
theorem dX1_become__50 : decode cX1_become_ 50 = .ok (.ldc2_w 29, 3) := by decide +kernel
theorem dX1_become__53 : decode cX1_become_ 53 = .ok (.lcmp, 1) := by decide +kernel
theorem dX1_become__54 : decode cX1_become_ 54 = .ok (.ifCond .gt 25, 3) := by decide +kernel
theorem dX1_become__57 : decode cX1_become_ 57 = .ok (.aload_n 0, 1) := by decide +kernel
theorem dX1_become__58 : decode cX1_become_ 58 = .ok (.getfield 9, 3) := by decide +kernel
theorem dX1_become__61 : decode cX1_become_ 61 = .ok (.ldc2_w 31, 3) := by decide +kernel
theorem dX1_become__64 : decode cX1_become_ 64 = .ok (.lcmp, 1) := by decide +kernel
theorem dX1_become__65 : decode cX1_become_ 65 = .ok (.ifCond .lt 14, 3) := by decide +kernel
theorem dX1_become__68 : decode cX1_become_ 68 = .ok (.aload_n 0, 1) := by decide +kernel
theorem dX1_become__69 : decode cX1_become_ 69 = .ok (.getfield 15, 3) := by decide +kernel
theorem dX1_become__72 : decode cX1_become_ 72 = .ok (.ldc2_w 29, 3) := by decide +kernel
theorem dX1_become__75 : decode cX1_become_ 75 = .ok (.lcmp, 1) := by decide +kernel
theorem dX1_become__76 : decode cX1_become_ 76 = .ok (.ifCond .le 7, 3) := by decide +kernel
theorem dX1_become__79 : decode cX1_become_ 79 = .ok (.aload_n 0, 1) := by decide +kernel
theorem dX1_become__80 : decode cX1_become_ 80 = .ok (.invokevirtual 26, 3) := by decide +kernel
theorem dX1_become__83 : decode cX1_become_ 83 = .ok (.return_, 1) := by decide +kernel
theorem dX1_spoil_0 : decode cX1_spoil 0 = .ok (.aload_n 0, 1) := by decide +kernel
theorem dX1_spoil_1 : decode cX1_spoil 1 = .ok (.lconst 0, 1) := by decide +kernel
theorem dX1_spoil_2 : decode cX1_spoil 2 = .ok (.putfield 9, 3) := by decide +kernel
theorem dX1_spoil_5 : decode cX1_spoil 5 = .ok (.aload_n 0, 1) := by decide +kernel
theorem dX1_spoil_6 : decode cX1_spoil 6 = .ok (.lconst 1, 1) := by decide +kernel
theorem dX1_spoil_7 : decode cX1_spoil 7 = .ok (.putfield 15, 3) := by decide +kernel
theorem dX1_spoil_10 : decode cX1_spoil 10 = .ok (.aload_n 0, 1) := by decide +kernel
theorem dX1_spoil_11 : decode cX1_spoil 11 = .ok (.iconst 1, 1) := by decide +kernel
theorem dX1_spoil_12 : decode cX1_spoil 12 = .ok (.putfield 18, 3) := by decide +kernel
theorem dX1_spoil_15 : decode cX1_spoil 15 = .ok (.return_, 1) := by decide +kernel
set_option maxRecDepth 20000 in
theorem ggX1_add_X1_divisorOf : GoodIn wsX1_add wsX1_divisorOf := goodIn_r _ [7] (by decide +kernel) (by decide +kernel)
set_option maxRecDepth 20000 in
theorem gX1_add_X1_divisorOf : GoodIn wsX1_add (va_wsS RX1 22 yX1_divisorOf wsX1_divisorOf) := goodIn_app (goodIn_of _ (by decide +kernel)) ggX1_add_X1_divisorOf
set_option maxRecDepth 20000 in
theorem ggX1_add_X1_spoil : GoodIn wsX1_add wsX1_spoil := goodIn_r _ [11, 3, 1, 2, 18, 19, 20] (by decide +kernel) (by decide +kernel)
set_option maxRecDepth 20000 in
theorem gX1_add_X1_spoil : GoodIn wsX1_add (wsV RX1 26 RX1 yX1_spoil wsX1_spoil) := goodIn_app (goodIn_of _ (by decide +kernel)) ggX1_add_X1_spoil
set_option maxRecDepth 20000 in
theorem ggX1_add_X1_become_ : GoodIn wsX1_add wsX1_become_ := goodIn_r _ [15, 3, 1, 2, 16, 17, 4, 5, 6, 7, 8, 9, 10, 11, 18, 19, 20] (by decide +kernel) (by decide +kernel)
set_option maxRecDepth 20000 in
theorem gX1_add_X1_become_ : GoodIn wsX1_add (wsV RX1 33 RX1 yX1_become_ wsX1_become_) := goodIn_app (goodIn_of _ (by decide +kernel)) ggX1_add_X1_become_
theorem dX1_add_0 : decode cX1_add 0 = .ok (.aload_n 0, 1) := by decide +kernel
theorem dX1_add_1 : decode cX1_add 1 = .ok (.getfield 15, 3) := by decide +kernel
theorem dX1_add_4 : decode cX1_add 4 = .ok (.aload_n 1, 1) := by decide +kernel
theorem dX1_add_5 : decode cX1_add 5 = .ok (.getfield 15, 3) := by decide +kernel
theorem dX1_add_8 : decode cX1_add 8 = .ok (.invokestatic 22, 3) := by decide +kernel
theorem dX1_add_11 : decode cX1_add 11 = .ok (.lstore_n 3, 1) := by decide +kernel
theorem dX1_add_12 : decode cX1_add 12 = .ok (.aload_n 0, 1) := by decide +kernel
theorem dX1_add_13 : decode cX1_add 13 = .ok (.getfield 18, 3) := by decide +kernel
theorem dX1_add_16 : decode cX1_add 16 = .ok (.ifCond .ne 16, 3) := by decide +kernel
theorem dX1_add_19 : decode cX1_add 19 = .ok (.aload_n 1, 1) := by decide +kernel
theorem dX1_add_20 : decode cX1_add 20 = .ok (.getfield 18, 3) := by decide +kernel
theorem dX1_add_23 : decode cX1_add 23 = .ok (.ifCond .ne 9, 3) := by decide +kernel
theorem dX1_add_26 : decode cX1_add 26 = .ok (.lload_n 3, 1) := by decide +kernel
theorem dX1_add_27 : decode cX1_add 27 = .ok (.lconst 1, 1) := by decide +kernel
theorem dX1_add_28 : decode cX1_add 28 = .ok (.lcmp, 1) := by decide +kernel
theorem dX1_add_29 : decode cX1_add 29 = .ok (.ifCond .ge 8, 3) := by decide +kernel
theorem dX1_add_32 : decode cX1_add 32 = .ok (.aload_n 0, 1) := by decide +kernel
theorem dX1_add_33 : decode cX1_add 33 = .ok (.invokevirtual 26, 3) := by decide +kernel
theorem dX1_add_36 : decode cX1_add 36 = .ok (.return_, 1) := by decide +kernel
theorem dX1_add_37 : decode cX1_add 37 = .ok (.aload_n 1, 1) := by decide +kernel
theorem dX1_add_38 : decode cX1_add 38 = .ok (.getfield 15, 3) := by decide +kernel
theorem dX1_add_41 : decode cX1_add 41 = .ok (.lload_n 3, 1) := by decide +kernel
theorem dX1_add_42 : decode cX1_add 42 = .ok (.ldiv, 1) := by decide +kernel
theorem dX1_add_43 : decode cX1_add 43 = .ok (.lstore 5, 2) := by decide +kernel
theorem dX1_add_45 : decode cX1_add 45 = .ok (.aload_n 0, 1) := by decide +kernel
theorem dX1_add_46 : decode cX1_add 46 = .ok (.getfield 15, 3) := by decide +kernel
theorem dX1_add_49 : decode cX1_add 49 = .ok (.lload_n 3, 1) := by decide +kernel
theorem dX1_add_50 : decode cX1_add 50 = .ok (.ldiv, 1) := by decide +kernel
theorem dX1_add_51 : decode cX1_add 51 = .ok (.lstore 7, 2) := by decide +kernel
theorem dX1_add_53 : decode cX1_add 53 = .ok (.aload_n 0, 1) := by decide +kernel
theorem dX1_add_54 : decode cX1_add 54 = .ok (.aload_n 0, 1) := by decide +kernel
theorem dX1_add_55 : decode cX1_add 55 = .ok (.getfield 9, 3) := by decide +kernel
theorem dX1_add_58 : decode cX1_add 58 = .ok (.lload 5, 2) := by decide +kernel
theorem dX1_add_60 : decode cX1_add 60 = .ok (.lmul, 1) := by decide +kernel
theorem dX1_add_61 : decode cX1_add 61 = .ok (.iload_n 2, 1) := by decide +kernel
theorem dX1_add_62 : decode cX1_add 62 = .ok (.i2l, 1) := by decide +kernel
theorem dX1_add_63 : decode cX1_add 63 = .ok (.aload_n 1, 1) := by decide +kernel
theorem dX1_add_64 : decode cX1_add 64 = .ok (.getfield 9, 3) := by decide +kernel
theorem dX1_add_67 : decode cX1_add 67 = .ok (.lmul, 1) := by decide +kernel
theorem dX1_add_68 : decode cX1_add 68 = .ok (.lload 7, 2) := by decide +kernel
theorem dX1_add_70 : decode cX1_add 70 = .ok (.lmul, 1) := by decide +kernel
theorem dX1_add_71 : decode cX1_add 71 = .ok (.ladd, 1) := by decide +kernel
theorem dX1_add_72 : decode cX1_add 72 = .ok (.aload_n 0, 1) := by decide +kernel
theorem dX1_add_73 : decode cX1_add 73 = .ok (.getfield 15, 3) := by decide +kernel
theorem dX1_add_76 : decode cX1_add 76 = .ok (.lload 5, 2) := by decide +kernel
theorem dX1_add_78 : decode cX1_add 78 = .ok (.lmul, 1) := by decide +kernel
theorem dX1_add_79 : decode cX1_add 79 = .ok (.invokevirtual 33, 3) := by decide +kernel
theorem dX1_add_82 : decode cX1_add 82 = .ok (.return_, 1) := by decide +kernel
set_option maxRecDepth 20000 in
theorem ggX1_multiply_X1_spoil : GoodIn wsX1_multiply wsX1_spoil := goodIn_r _ [8, 2, 3, 1, 18, 19, 20] (by decide +kernel) (by decide +kernel)
set_option maxRecDepth 20000 in
theorem gX1_multiply_X1_spoil : GoodIn wsX1_multiply (wsV RX1 26 RX1 yX1_spoil wsX1_spoil) := goodIn_app (goodIn_of _ (by decide +kernel)) ggX1_multiply_X1_spoil
set_option maxRecDepth 20000 in
theorem ggX1_multiply_X1_become_ : GoodIn wsX1_multiply wsX1_become_ := goodIn_r _ [12, 2, 3, 1, 13, 14, 15, 16, 7, 17, 4, 5, 6, 8, 18, 19, 20] (by decide +kernel) (by decide +kernel)
set_option maxRecDepth 20000 in
theorem gX1_multiply_X1_become_ : GoodIn wsX1_multiply (wsV RX1 33 RX1 yX1_become_ wsX1_become_) := goodIn_app (goodIn_of _ (by decide +kernel)) ggX1_multiply_X1_become_
theorem dX1_multiply_0 : decode cX1_multiply 0 = .ok (.aload_n 0, 1) := by decide +kernel
theorem dX1_multiply_1 : decode cX1_multiply 1 = .ok (.getfield 18, 3) := by decide +kernel
theorem dX1_multiply_4 : decode cX1_multiply 4 = .ok (.ifCond .ne 10, 3) := by decide +kernel
theorem dX1_multiply_7 : decode cX1_multiply 7 = .ok (.aload_n 1, 1) := by decide +kernel
theorem dX1_multiply_8 : decode cX1_multiply 8 = .ok (.getfield 18, 3) := by decide +kernel
theorem dX1_multiply_11 : decode cX1_multiply 11 = .ok (.ifCond .eq 8, 3) := by decide +kernel
theorem dX1_multiply_14 : decode cX1_multiply 14 = .ok (.aload_n 0, 1) := by decide +kernel
theorem dX1_multiply_15 : decode cX1_multiply 15 = .ok (.invokevirtual 26, 3) := by decide +kernel
theorem dX1_multiply_18 : decode cX1_multiply 18 = .ok (.return_, 1) := by decide +kernel
theorem dX1_multiply_19 : decode cX1_multiply 19 = .ok (.aload_n 0, 1) := by decide +kernel
theorem dX1_multiply_20 : decode cX1_multiply 20 = .ok (.aload_n 0, 1) := by decide +kernel
theorem dX1_multiply_21 : decode cX1_multiply 21 = .ok (.getfield 9, 3) := by decide +kernel
theorem dX1_multiply_24 : decode cX1_multiply 24 = .ok (.aload_n 1, 1) := by decide +kernel
theorem dX1_multiply_25 : decode cX1_multiply 25 = .ok (.getfield 9, 3) := by decide +kernel
theorem dX1_multiply_28 : decode cX1_multiply 28 = .ok (.lmul, 1) := by decide +kernel
theorem dX1_multiply_29 : decode cX1_multiply 29 = .ok (.aload_n 0, 1) := by decide +kernel
theorem dX1_multiply_30 : decode cX1_multiply 30 = .ok (.getfield 15, 3) := by decide +kernel
theorem dX1_multiply_33 : decode cX1_multiply 33 = .ok (.aload_n 1, 1) := by decide +kernel
theorem dX1_multiply_34 : decode cX1_multiply 34 = .ok (.getfield 15, 3) := by decide +kernel
theorem dX1_multiply_37 : decode cX1_multiply 37 = .ok (.lmul, 1) := by decide +kernel
theorem dX1_multiply_38 : decode cX1_multiply 38 = .ok (.invokevirtual 33, 3) := by decide +kernel
theorem dX1_multiply_41 : decode cX1_multiply 41 = .ok (.return_, 1) := by decide +kernel
set_option maxRecDepth 20000 in
theorem ggX1_divideByThree_X1_become_ : GoodIn wsX1_divideByThree wsX1_become_ := goodIn_r _ [9, 2, 3, 1, 10, 11, 12, 13, 8, 14, 15, 16, 17, 18, 19, 20, 21] (by decide +kernel) (by decide +kernel)
set_option maxRecDepth 20000 in
theorem gX1_divideByThree_X1_become_ : GoodIn wsX1_divideByThree (wsV RX1 33 RX1 yX1_become_ wsX1_become_) := goodIn_app (goodIn_of _ (by decide +kernel)) ggX1_divideByThree_X1_become_
theorem dX1_divideByThree_0 : decode cX1_divideByThree 0 = .ok (.aload_n 0, 1) := by decide +kernel
theorem dX1_divideByThree_1 : decode cX1_divideByThree 1 = .ok (.getfield 18, 3) := by decide +kernel
theorem dX1_divideByThree_4 : decode cX1_divideByThree 4 = .ok (.ifCond .ne 19, 3) := by decide +kernel
theorem dX1_divideByThree_7 : decode cX1_divideByThree 7 = .ok (.aload_n 0, 1) := by decide +kernel
theorem dX1_divideByThree_8 : decode cX1_divideByThree 8 = .ok (.aload_n 0, 1) := by decide +kernel
theorem dX1_divideByThree_9 : decode cX1_divideByThree 9 = .ok (.getfield 9, 3) := by decide +kernel
theorem dX1_divideByThree_12 : decode cX1_divideByThree 12 = .ok (.aload_n 0, 1) := by decide +kernel
theorem dX1_divideByThree_13 : decode cX1_divideByThree 13 = .ok (.getfield 15, 3) := by decide +kernel
theorem dX1_divideByThree_16 : decode cX1_divideByThree 16 = .ok (.ldc2_w 37, 3) := by decide +kernel
theorem dX1_divideByThree_19 : decode cX1_divideByThree 19 = .ok (.lmul, 1) := by decide +kernel
theorem dX1_divideByThree_20 : decode cX1_divideByThree 20 = .ok (.invokevirtual 33, 3) := by decide +kernel
theorem dX1_divideByThree_23 : decode cX1_divideByThree 23 = .ok (.return_, 1) := by decide +kernel
theorem dX1_negate_0 : decode cX1_negate 0 = .ok (.aload_n 0, 1) := by decide +kernel
theorem dX1_negate_1 : decode cX1_negate 1 = .ok (.aload_n 0, 1) := by decide +kernel
theorem dX1_negate_2 : decode cX1_negate 2 = .ok (.getfield 9, 3) := by decide +kernel
theorem dX1_negate_5 : decode cX1_negate 5 = .ok (.lneg, 1) := by decide +kernel
theorem dX1_negate_6 : decode cX1_negate 6 = .ok (.putfield 9, 3) := by decide +kernel
theorem dX1_negate_9 : decode cX1_negate 9 = .ok (.return_, 1) := by decide +kernel
theorem dX1_isMoreThan_0 : decode cX1_isMoreThan 0 = .ok (.aload_n 0, 1) := by decide +kernel
theorem dX1_isMoreThan_1 : decode cX1_isMoreThan 1 = .ok (.getfield 9, 3) := by decide +kernel
theorem dX1_isMoreThan_4 : decode cX1_isMoreThan 4 = .ok (.aload_n 1, 1) := by decide +kernel
theorem dX1_isMoreThan_5 : decode cX1_isMoreThan 5 = .ok (.getfield 15, 3) := by decide +kernel
theorem dX1_isMoreThan_8 : decode cX1_isMoreThan 8 = .ok (.lmul, 1) := by decide +kernel
theorem dX1_isMoreThan_9 : decode cX1_isMoreThan 9 = .ok (.aload_n 1, 1) := by decide +kernel
theorem dX1_isMoreThan_10 : decode cX1_isMoreThan 10 = .ok (.getfield 9, 3) := by decide +kernel
theorem dX1_isMoreThan_13 : decode cX1_isMoreThan 13 = .ok (.aload_n 0, 1) := by decide +kernel
theorem dX1_isMoreThan_14 : decode cX1_isMoreThan 14 = .ok (.getfield 15, 3) := by decide +kernel
theorem dX1_isMoreThan_17 : decode cX1_isMoreThan 17 = .ok (.lmul, 1) := by decide +kernel
theorem dX1_isMoreThan_18 : decode cX1_isMoreThan 18 = .ok (.lcmp, 1) := by decide +kernel
theorem dX1_isMoreThan_19 : decode cX1_isMoreThan 19 = .ok (.ifCond .le 7, 3) := by decide +kernel
theorem dX1_isMoreThan_22 : decode cX1_isMoreThan 22 = .ok (.iconst 1, 1) := by decide +kernel
theorem dX1_isMoreThan_23 : decode cX1_isMoreThan 23 = .ok (.goto 4, 3) := by decide +kernel
theorem dX1_isMoreThan_26 : decode cX1_isMoreThan 26 = .ok (.iconst 0, 1) := by decide +kernel
theorem dX1_isMoreThan_27 : decode cX1_isMoreThan 27 = .ok (.ireturn, 1) := by decide +kernel
theorem dX1_isAs_0 : decode cX1_isAs 0 = .ok (.aload_n 0, 1) := by decide +kernel
theorem dX1_isAs_1 : decode cX1_isAs 1 = .ok (.getfield 9, 3) := by decide +kernel
theorem dX1_isAs_4 : decode cX1_isAs 4 = .ok (.aload_n 1, 1) := by decide +kernel
theorem dX1_isAs_5 : decode cX1_isAs 5 = .ok (.getfield 9, 3) := by decide +kernel
theorem dX1_isAs_8 : decode cX1_isAs 8 = .ok (.lcmp, 1) := by decide +kernel
theorem dX1_isAs_9 : decode cX1_isAs 9 = .ok (.ifCond .ne 19, 3) := by decide +kernel
theorem dX1_isAs_12 : decode cX1_isAs 12 = .ok (.aload_n 0, 1) := by decide +kernel
theorem dX1_isAs_13 : decode cX1_isAs 13 = .ok (.getfield 15, 3) := by decide +kernel
theorem dX1_isAs_16 : decode cX1_isAs 16 = .ok (.aload_n 1, 1) := by decide +kernel
theorem dX1_isAs_17 : decode cX1_isAs 17 = .ok (.getfield 15, 3) := by decide +kernel
theorem dX1_isAs_20 : decode cX1_isAs 20 = .ok (.lcmp, 1) := by decide +kernel
theorem dX1_isAs_21 : decode cX1_isAs 21 = .ok (.ifCond .ne 7, 3) := by decide +kernel
theorem dX1_isAs_24 : decode cX1_isAs 24 = .ok (.iconst 1, 1) := by decide +kernel
theorem dX1_isAs_25 : decode cX1_isAs 25 = .ok (.goto 4, 3) := by decide +kernel
theorem dX1_isAs_28 : decode cX1_isAs 28 = .ok (.iconst 0, 1) := by decide +kernel
theorem dX1_isAs_29 : decode cX1_isAs 29 = .ok (.ireturn, 1) := by decide +kernel
theorem dX1_tell_0 : decode cX1_tell 0 = .ok (.aload_n 0, 1) := by decide +kernel
theorem dX1_tell_1 : decode cX1_tell 1 = .ok (.getfield 18, 3) := by decide +kernel
theorem dX1_tell_4 : decode cX1_tell 4 = .ok (.ifCond .eq 7, 3) := by decide +kernel
theorem dX1_tell_7 : decode cX1_tell 7 = .ok (.ldc2_w 39, 3) := by decide +kernel
theorem dX1_tell_10 : decode cX1_tell 10 = .ok (.lreturn, 1) := by decide +kernel
theorem dX1_tell_11 : decode cX1_tell 11 = .ok (.iload_n 1, 1) := by decide +kernel
theorem dX1_tell_12 : decode cX1_tell 12 = .ok (.ifCond .ne 10, 3) := by decide +kernel
theorem dX1_tell_15 : decode cX1_tell 15 = .ok (.aload_n 0, 1) := by decide +kernel
theorem dX1_tell_16 : decode cX1_tell 16 = .ok (.getfield 9, 3) := by decide +kernel
theorem dX1_tell_19 : decode cX1_tell 19 = .ok (.goto 7, 3) := by decide +kernel
theorem dX1_tell_22 : decode cX1_tell 22 = .ok (.aload_n 0, 1) := by decide +kernel
theorem dX1_tell_23 : decode cX1_tell 23 = .ok (.getfield 15, 3) := by decide +kernel
theorem dX1_tell_26 : decode cX1_tell 26 = .ok (.lreturn, 1) := by decide +kernel
set_option maxRecDepth 20000 in
theorem ggX2_init_X2_restart : GoodIn wsX2_init wsX2_restart := goodIn_r _ [14, 4, 5, 15, 16, 17, 13, 18, 7, 9, 19, 20, 21, 22, 23, 24, 25, 26, 8, 27, 28, 29, 30, 31] (by decide +kernel) (by decide +kernel)
set_option maxRecDepth 20000 in
theorem gX2_init_X2_restart : GoodIn wsX2_init (wsV RX2 28 RX2 yX2_restart wsX2_restart) := goodIn_app (goodIn_of _ (by decide +kernel)) ggX2_init_X2_restart
theorem dX2_init_0 : decode cX2_init 0 = .ok (.aload_n 0, 1) := by decide +kernel
theorem dX2_init_1 : decode cX2_init 1 = .ok (.invokespecial 3, 3) := by decide +kernel
theorem dX2_init_4 : decode cX2_init 4 = .ok (.aload_n 0, 1) := by decide +kernel
theorem dX2_init_5 : decode cX2_init 5 = .ok (.bipush 50, 2) := by decide +kernel
theorem dX2_init_7 : decode cX2_init 7 = .ok (.putfield 9, 3) := by decide +kernel
theorem dX2_init_10 : decode cX2_init 10 = .ok (.aload_n 0, 1) := by decide +kernel
theorem dX2_init_11 : decode cX2_init 11 = .ok (.iconst 0, 1) := by decide +kernel
theorem dX2_init_12 : decode cX2_init 12 = .ok (.putfield 15, 3) := by decide +kernel
theorem dX2_init_15 : decode cX2_init 15 = .ok (.aload_n 0, 1) := by decide +kernel
theorem dX2_init_16 : decode cX2_init 16 = .ok (.bipush 6, 2) := by decide +kernel
theorem dX2_init_18 : decode cX2_init 18 = .ok (.newarray .int, 2) := by decide +kernel
theorem dX2_init_20 : decode cX2_init 20 = .ok (.putfield 18, 3) := by decide +kernel
theorem dX2_init_23 : decode cX2_init 23 = .ok (.aload_n 0, 1) := by decide +kernel
theorem dX2_init_24 : decode cX2_init 24 = .ok (.bipush 18, 2) := by decide +kernel
theorem dX2_init_26 : decode cX2_init 26 = .ok (.newarray .int, 2) := by decide +kernel
theorem dX2_init_28 : decode cX2_init 28 = .ok (.putfield 22, 3) := by decide +kernel
theorem dX2_init_31 : decode cX2_init 31 = .ok (.aload_n 0, 1) := by decide +kernel
theorem dX2_init_32 : decode cX2_init 32 = .ok (.bipush 6, 2) := by decide +kernel
theorem dX2_init_34 : decode cX2_init 34 = .ok (.newarray .int, 2) := by decide +kernel
theorem dX2_init_36 : decode cX2_init 36 = .ok (.putfield 25, 3) := by decide +kernel
theorem dX2_init_39 : decode cX2_init 39 = .ok (.aload_n 0, 1) := by decide +kernel
theorem dX2_init_40 : decode cX2_init 40 = .ok (.bipush 50, 2) := by decide +kernel
theorem dX2_init_42 : decode cX2_init 42 = .ok (.invokevirtual 28, 3) := by decide +kernel
theorem dX2_init_45 : decode cX2_init 45 = .ok (.return_, 1) := by decide +kernel
set_option maxRecDepth 20000 in
theorem ggX2_restart_X2_hang : GoodIn wsX2_restart wsX2_hang := goodIn_r _ [7, 8, 2, 9, 10, 11, 12, 6, 13, 14, 15, 16, 17, 18, 19, 20, 21, 22, 23] (by decide +kernel) (by decide +kernel)
set_option maxRecDepth 20000 in
theorem gX2_restart_X2_hang : GoodIn wsX2_restart (wsV RX2 32 RX2 yX2_hang wsX2_hang) := goodIn_app (goodIn_of _ (by decide +kernel)) ggX2_restart_X2_hang
theorem dX2_restart_0 : decode cX2_restart 0 = .ok (.aload_n 0, 1) := by decide +kernel
theorem dX2_restart_1 : decode cX2_restart 1 = .ok (.iload_n 1, 1) := by decide +kernel
theorem dX2_restart_2 : decode cX2_restart 2 = .ok (.putfield 9, 3) := by decide +kernel
theorem dX2_restart_5 : decode cX2_restart 5 = .ok (.aload_n 0, 1) := by decide +kernel
theorem dX2_restart_6 : decode cX2_restart 6 = .ok (.iconst 0, 1) := by decide +kernel
theorem dX2_restart_7 : decode cX2_restart 7 = .ok (.putfield 15, 3) := by decide +kernel
theorem dX2_restart_10 : decode cX2_restart 10 = .ok (.aload_n 0, 1) := by decide +kernel
theorem dX2_restart_11 : decode cX2_restart 11 = .ok (.iconst (-1), 1) := by decide +kernel
theorem dX2_restart_12 : decode cX2_restart 12 = .ok (.iconst 1, 1) := by decide +kernel
theorem dX2_restart_13 : decode cX2_restart 13 = .ok (.iconst 1, 1) := by decide +kernel
theorem dX2_restart_14 : decode cX2_restart 14 = .ok (.iconst 1, 1) := by decide +kernel
theorem dX2_restart_15 : decode cX2_restart 15 = .ok (.invokevirtual 32, 3) := by decide +kernel
theorem dX2_restart_18 : decode cX2_restart 18 = .ok (.return_, 1) := by decide +kernel
theorem dX2_become_0 : decode cX2_become 0 = .ok (.aload_n 0, 1) := by decide +kernel
theorem dX2_become_1 : decode cX2_become 1 = .ok (.aload_n 1, 1) := by decide +kernel
theorem dX2_become_2 : decode cX2_become 2 = .ok (.getfield 9, 3) := by decide +kernel
theorem dX2_become_5 : decode cX2_become 5 = .ok (.putfield 9, 3) := by decide +kernel
theorem dX2_become_8 : decode cX2_become 8 = .ok (.aload_n 0, 1) := by decide +kernel
theorem dX2_become_9 : decode cX2_become 9 = .ok (.aload_n 1, 1) := by decide +kernel
theorem dX2_become_10 : decode cX2_become 10 = .ok (.getfield 15, 3) := by decide +kernel
theorem dX2_become_13 : decode cX2_become 13 = .ok (.putfield 15, 3) := by decide +kernel
theorem dX2_become_16 : decode cX2_become 16 = .ok (.aload_n 1, 1) := by decide +kernel
theorem dX2_become_17 : decode cX2_become 17 = .ok (.getfield 18, 3) := by decide +kernel
theorem dX2_become_20 : decode cX2_become 20 = .ok (.iconst 0, 1) := by decide +kernel
theorem dX2_become_21 : decode cX2_become 21 = .ok (.aload_n 0, 1) := by decide +kernel
theorem dX2_become_22 : decode cX2_become 22 = .ok (.getfield 18, 3) := by decide +kernel
theorem dX2_become_25 : decode cX2_become 25 = .ok (.iconst 0, 1) := by decide +kernel
theorem dX2_become_26 : decode cX2_become 26 = .ok (.bipush 6, 2) := by decide +kernel
theorem dX2_become_28 : decode cX2_become 28 = .ok (.invokestatic 36, 3) := by decide +kernel
theorem dX2_become_31 : decode cX2_become 31 = .ok (.aload_n 1, 1) := by decide +kernel
theorem dX2_become_32 : decode cX2_become 32 = .ok (.getfield 22, 3) := by decide +kernel
theorem dX2_become_35 : decode cX2_become 35 = .ok (.iconst 0, 1) := by decide +kernel
theorem dX2_become_36 : decode cX2_become 36 = .ok (.aload_n 0, 1) := by decide +kernel
theorem dX2_become_37 : decode cX2_become 37 = .ok (.getfield 22, 3) := by decide +kernel
theorem dX2_become_40 : decode cX2_become 40 = .ok (.iconst 0, 1) := by decide +kernel
theorem dX2_become_41 : decode cX2_become 41 = .ok (.bipush 18, 2) := by decide +kernel
theorem dX2_become_43 : decode cX2_become 43 = .ok (.invokestatic 36, 3) := by decide +kernel
theorem dX2_become_46 : decode cX2_become 46 = .ok (.aload_n 1, 1) := by decide +kernel
theorem dX2_become_47 : decode cX2_become 47 = .ok (.getfield 25, 3) := by decide +kernel
theorem dX2_become_50 : decode cX2_become 50 = .ok (.iconst 0, 1) := by decide +kernel
theorem dX2_become_51 : decode cX2_become 51 = .ok (.aload_n 0, 1) := by decide +kernel
theorem dX2_become_52 : decode cX2_become 52 = .ok (.getfield 25, 3) := by decide +kernel
theorem dX2_become_55 : decode cX2_become 55 = .ok (.iconst 0, 1) := by decide +kernel
theorem dX2_become_56 : decode cX2_become 56 = .ok (.bipush 6, 2) := by decide +kernel
theorem dX2_become_58 : decode cX2_become 58 = .ok (.invokestatic 36, 3) := by decide +kernel
theorem dX2_become_61 : decode cX2_become 61 = .ok (.return_, 1) := by decide +kernel
set_option maxRecDepth 20000 in
theorem ggX2_hang_X2_isFull : GoodIn wsX2_hang wsX2_isFull := goodIn_r _ [8, 2, 14, 15, 16, 17, 18] (by decide +kernel) (by decide +kernel)
set_option maxRecDepth 20000 in
theorem gX2_hang_X2_isFull : GoodIn wsX2_hang (wsV RX2 42 RX2 yX2_isFull wsX2_isFull) := goodIn_app (goodIn_of _ (by decide +kernel)) ggX2_hang_X2_isFull
set_option maxRecDepth 20000 in
theorem ggX2_hang_X2_resist : GoodIn wsX2_hang wsX2_resist := goodIn_r _ [12, 13, 14, 15, 16, 17, 18] (by decide +kernel) (by decide +kernel)
set_option maxRecDepth 20000 in
theorem gX2_hang_X2_resist : GoodIn wsX2_hang (wsV RX2 46 RX2 yX2_resist wsX2_resist) := goodIn_app (goodIn_of _ (by decide +kernel)) ggX2_hang_X2_resist
theorem dX2_hang_0 : decode cX2_hang 0 = .ok (.aload_n 0, 1) := by decide +kernel
theorem dX2_hang_1 : decode cX2_hang 1 = .ok (.invokevirtual 42, 3) := by decide +kernel
theorem dX2_hang_4 : decode cX2_hang 4 = .ok (.ifCond .eq 4, 3) := by decide +kernel
theorem dX2_hang_7 : decode cX2_hang 7 = .ok (.return_, 1) := by decide +kernel
theorem dX2_hang_8 : decode cX2_hang 8 = .ok (.aload_n 0, 1) := by decide +kernel
theorem dX2_hang_9 : decode cX2_hang 9 = .ok (.getfield 18, 3) := by decide +kernel
theorem dX2_hang_12 : decode cX2_hang 12 = .ok (.aload_n 0, 1) := by decide +kernel
theorem dX2_hang_13 : decode cX2_hang 13 = .ok (.getfield 15, 3) := by decide +kernel
theorem dX2_hang_16 : decode cX2_hang 16 = .ok (.iload_n 1, 1) := by decide +kernel
theorem dX2_hang_17 : decode cX2_hang 17 = .ok (.iastore, 1) := by decide +kernel
theorem dX2_hang_18 : decode cX2_hang 18 = .ok (.aload_n 0, 1) := by decide +kernel
theorem dX2_hang_19 : decode cX2_hang 19 = .ok (.getfield 25, 3) := by decide +kernel
theorem dX2_hang_22 : decode cX2_hang 22 = .ok (.aload_n 0, 1) := by decide +kernel
theorem dX2_hang_23 : decode cX2_hang 23 = .ok (.getfield 15, 3) := by decide +kernel
theorem dX2_hang_26 : decode cX2_hang 26 = .ok (.iconst 0, 1) := by decide +kernel
theorem dX2_hang_27 : decode cX2_hang 27 = .ok (.iastore, 1) := by decide +kernel
theorem dX2_hang_28 : decode cX2_hang 28 = .ok (.aload_n 0, 1) := by decide +kernel
theorem dX2_hang_29 : decode cX2_hang 29 = .ok (.aload_n 0, 1) := by decide +kernel
theorem dX2_hang_30 : decode cX2_hang 30 = .ok (.getfield 15, 3) := by decide +kernel
theorem dX2_hang_33 : decode cX2_hang 33 = .ok (.iload_n 2, 1) := by decide +kernel
theorem dX2_hang_34 : decode cX2_hang 34 = .ok (.iload_n 3, 1) := by decide +kernel
theorem dX2_hang_35 : decode cX2_hang 35 = .ok (.iload 4, 2) := by decide +kernel
theorem dX2_hang_37 : decode cX2_hang 37 = .ok (.invokevirtual 46, 3) := by decide +kernel
theorem dX2_hang_40 : decode cX2_hang 40 = .ok (.aload_n 0, 1) := by decide +kernel
theorem dX2_hang_41 : decode cX2_hang 41 = .ok (.dup, 1) := by decide +kernel
theorem dX2_hang_42 : decode cX2_hang 42 = .ok (.getfield 15, 3) := by decide +kernel
theorem dX2_hang_45 : decode cX2_hang 45 = .ok (.iconst 1, 1) := by decide +kernel
theorem dX2_hang_46 : decode cX2_hang 46 = .ok (.iadd, 1) := by decide +kernel
theorem dX2_hang_47 : decode cX2_hang 47 = .ok (.putfield 15, 3) := by decide +kernel
theorem dX2_hang_50 : decode cX2_hang 50 = .ok (.return_, 1) := by decide +kernel
theorem dX2_resist_0 : decode cX2_resist 0 = .ok (.aload_n 0, 1) := by decide +kernel
theorem dX2_resist_1 : decode cX2_resist 1 = .ok (.getfield 22, 3) := by decide +kernel
theorem dX2_resist_4 : decode cX2_resist 4 = .ok (.iload_n 1, 1) := by decide +kernel
theorem dX2_resist_5 : decode cX2_resist 5 = .ok (.iconst 3, 1) := by decide +kernel
theorem dX2_resist_6 : decode cX2_resist 6 = .ok (.imul, 1) := by decide +kernel
theorem dX2_resist_7 : decode cX2_resist 7 = .ok (.iload_n 2, 1) := by decide +kernel
theorem dX2_resist_8 : decode cX2_resist 8 = .ok (.iastore, 1) := by decide +kernel
theorem dX2_resist_9 : decode cX2_resist 9 = .ok (.aload_n 0, 1) := by decide +kernel
theorem dX2_resist_10 : decode cX2_resist 10 = .ok (.getfield 22, 3) := by decide +kernel
theorem dX2_resist_13 : decode cX2_resist 13 = .ok (.iload_n 1, 1) := by decide +kernel
theorem dX2_resist_14 : decode cX2_resist 14 = .ok (.iconst 3, 1) := by decide +kernel
theorem dX2_resist_15 : decode cX2_resist 15 = .ok (.imul, 1) := by decide +kernel
theorem dX2_resist_16 : decode cX2_resist 16 = .ok (.iconst 1, 1) := by decide +kernel
theorem dX2_resist_17 : decode cX2_resist 17 = .ok (.iadd, 1) := by decide +kernel
theorem dX2_resist_18 : decode cX2_resist 18 = .ok (.iload_n 3, 1) := by decide +kernel
theorem dX2_resist_19 : decode cX2_resist 19 = .ok (.iastore, 1) := by decide +kernel
theorem dX2_resist_20 : decode cX2_resist 20 = .ok (.aload_n 0, 1) := by decide +kernel
theorem dX2_resist_21 : decode cX2_resist 21 = .ok (.getfield 22, 3) := by decide +kernel
theorem dX2_resist_24 : decode cX2_resist 24 = .ok (.iload_n 1, 1) := by decide +kernel
theorem dX2_resist_25 : decode cX2_resist 25 = .ok (.iconst 3, 1) := by decide +kernel
theorem dX2_resist_26 : decode cX2_resist 26 = .ok (.imul, 1) := by decide +kernel
theorem dX2_resist_27 : decode cX2_resist 27 = .ok (.iconst 2, 1) := by decide +kernel
theorem dX2_resist_28 : decode cX2_resist 28 = .ok (.iadd, 1) := by decide +kernel
theorem dX2_resist_29 : decode cX2_resist 29 = .ok (.iload 4, 2) := by decide +kernel
theorem dX2_resist_31 : decode cX2_resist 31 = .ok (.iastore, 1) := by decide +kernel
theorem dX2_resist_32 : decode cX2_resist 32 = .ok (.return_, 1) := by decide +kernel
theorem dX2_isFull_0 : decode cX2_isFull 0 = .ok (.aload_n 0, 1) := by decide +kernel
theorem dX2_isFull_1 : decode cX2_isFull 1 = .ok (.getfield 15, 3) := by decide +kernel
theorem dX2_isFull_4 : decode cX2_isFull 4 = .ok (.bipush 6, 2) := by decide +kernel
theorem dX2_isFull_6 : decode cX2_isFull 6 = .ok (.if_icmp .lt 7, 3) := by decide +kernel
theorem dX2_isFull_9 : decode cX2_isFull 9 = .ok (.iconst 1, 1) := by decide +kernel
theorem dX2_isFull_10 : decode cX2_isFull 10 = .ok (.goto 4, 3) := by decide +kernel
theorem dX2_isFull_13 : decode cX2_isFull 13 = .ok (.iconst 0, 1) := by decide +kernel
theorem dX2_isFull_14 : decode cX2_isFull 14 = .ok (.ireturn, 1) := by decide +kernel
theorem dX2_ohmsUpTo_0 : decode cX2_ohmsUpTo 0 = .ok (.aload_n 0, 1) := by decide +kernel
theorem dX2_ohmsUpTo_1 : decode cX2_ohmsUpTo 1 = .ok (.getfield 22, 3) := by decide +kernel
theorem dX2_ohmsUpTo_4 : decode cX2_ohmsUpTo 4 = .ok (.iload_n 2, 1) := by decide +kernel
theorem dX2_ohmsUpTo_5 : decode cX2_ohmsUpTo 5 = .ok (.iaload, 1) := by decide +kernel
theorem dX2_ohmsUpTo_6 : decode cX2_ohmsUpTo 6 = .ok (.istore_n 3, 1) := by decide +kernel
theorem dX2_ohmsUpTo_7 : decode cX2_ohmsUpTo 7 = .ok (.iconst 0, 1) := by decide +kernel
theorem dX2_ohmsUpTo_8 : decode cX2_ohmsUpTo 8 = .ok (.istore 4, 2) := by decide +kernel
theorem dX2_ohmsUpTo_10 : decode cX2_ohmsUpTo 10 = .ok (.iload_n 1, 1) := by decide +kernel
theorem dX2_ohmsUpTo_11 : decode cX2_ohmsUpTo 11 = .ok (.istore 5, 2) := by decide +kernel
theorem dX2_ohmsUpTo_13 : decode cX2_ohmsUpTo 13 = .ok (.iload 4, 2) := by decide +kernel
theorem dX2_ohmsUpTo_15 : decode cX2_ohmsUpTo 15 = .ok (.bipush 6, 2) := by decide +kernel
theorem dX2_ohmsUpTo_17 : decode cX2_ohmsUpTo 17 = .ok (.if_icmp .ge 37, 3) := by decide +kernel
theorem dX2_ohmsUpTo_20 : decode cX2_ohmsUpTo 20 = .ok (.iload 5, 2) := by decide +kernel
theorem dX2_ohmsUpTo_22 : decode cX2_ohmsUpTo 22 = .ok (.ifCond .le 32, 3) := by decide +kernel
theorem dX2_ohmsUpTo_25 : decode cX2_ohmsUpTo 25 = .ok (.iload_n 3, 1) := by decide +kernel
theorem dX2_ohmsUpTo_26 : decode cX2_ohmsUpTo 26 = .ok (.aload_n 0, 1) := by decide +kernel
theorem dX2_ohmsUpTo_27 : decode cX2_ohmsUpTo 27 = .ok (.getfield 22, 3) := by decide +kernel
theorem dX2_ohmsUpTo_30 : decode cX2_ohmsUpTo 30 = .ok (.iload 5, 2) := by decide +kernel
theorem dX2_ohmsUpTo_32 : decode cX2_ohmsUpTo 32 = .ok (.iconst 3, 1) := by decide +kernel
theorem dX2_ohmsUpTo_33 : decode cX2_ohmsUpTo 33 = .ok (.imul, 1) := by decide +kernel
theorem dX2_ohmsUpTo_34 : decode cX2_ohmsUpTo 34 = .ok (.iload_n 2, 1) := by decide +kernel
theorem dX2_ohmsUpTo_35 : decode cX2_ohmsUpTo 35 = .ok (.iadd, 1) := by decide +kernel
theorem dX2_ohmsUpTo_36 : decode cX2_ohmsUpTo 36 = .ok (.iaload, 1) := by decide +kernel
theorem dX2_ohmsUpTo_37 : decode cX2_ohmsUpTo 37 = .ok (.iadd, 1) := by decide +kernel
theorem dX2_ohmsUpTo_38 : decode cX2_ohmsUpTo 38 = .ok (.istore_n 3, 1) := by decide +kernel
theorem dX2_ohmsUpTo_39 : decode cX2_ohmsUpTo 39 = .ok (.iinc 4 1, 3) := by decide +kernel
theorem dX2_ohmsUpTo_42 : decode cX2_ohmsUpTo 42 = .ok (.aload_n 0, 1) := by decide +kernel
theorem dX2_ohmsUpTo_43 : decode cX2_ohmsUpTo 43 = .ok (.getfield 18, 3) := by decide +kernel
theorem dX2_ohmsUpTo_46 : decode cX2_ohmsUpTo 46 = .ok (.iload 5, 2) := by decide +kernel
theorem dX2_ohmsUpTo_48 : decode cX2_ohmsUpTo 48 = .ok (.iaload, 1) := by decide +kernel
theorem dX2_ohmsUpTo_49 : decode cX2_ohmsUpTo 49 = .ok (.istore 5, 2) := by decide +kernel
theorem dX2_ohmsUpTo_51 : decode cX2_ohmsUpTo 51 = .ok (.goto (-38), 3) := by decide +kernel
theorem dX2_ohmsUpTo_54 : decode cX2_ohmsUpTo 54 = .ok (.iload_n 3, 1) := by decide +kernel
theorem dX2_ohmsUpTo_55 : decode cX2_ohmsUpTo 55 = .ok (.ireturn, 1) := by decide +kernel
theorem dX2_linesUpTo_0 : decode cX2_linesUpTo 0 = .ok (.iconst 0, 1) := by decide +kernel
theorem dX2_linesUpTo_1 : decode cX2_linesUpTo 1 = .ok (.istore_n 2, 1) := by decide +kernel
theorem dX2_linesUpTo_2 : decode cX2_linesUpTo 2 = .ok (.iload_n 1, 1) := by decide +kernel
theorem dX2_linesUpTo_3 : decode cX2_linesUpTo 3 = .ok (.istore_n 3, 1) := by decide +kernel
theorem dX2_linesUpTo_4 : decode cX2_linesUpTo 4 = .ok (.iload_n 2, 1) := by decide +kernel
theorem dX2_linesUpTo_5 : decode cX2_linesUpTo 5 = .ok (.bipush 6, 2) := by decide +kernel
theorem dX2_linesUpTo_7 : decode cX2_linesUpTo 7 = .ok (.if_icmp .ge 20, 3) := by decide +kernel
theorem dX2_linesUpTo_10 : decode cX2_linesUpTo 10 = .ok (.iload_n 3, 1) := by decide +kernel
theorem dX2_linesUpTo_11 : decode cX2_linesUpTo 11 = .ok (.ifCond .le 16, 3) := by decide +kernel
theorem dX2_linesUpTo_14 : decode cX2_linesUpTo 14 = .ok (.iinc 2 1, 3) := by decide +kernel
theorem dX2_linesUpTo_17 : decode cX2_linesUpTo 17 = .ok (.aload_n 0, 1) := by decide +kernel
theorem dX2_linesUpTo_18 : decode cX2_linesUpTo 18 = .ok (.getfield 18, 3) := by decide +kernel
theorem dX2_linesUpTo_21 : decode cX2_linesUpTo 21 = .ok (.iload_n 3, 1) := by decide +kernel
theorem dX2_linesUpTo_22 : decode cX2_linesUpTo 22 = .ok (.iaload, 1) := by decide +kernel
theorem dX2_linesUpTo_23 : decode cX2_linesUpTo 23 = .ok (.istore_n 3, 1) := by decide +kernel
theorem dX2_linesUpTo_24 : decode cX2_linesUpTo 24 = .ok (.goto (-20), 3) := by decide +kernel
theorem dX2_linesUpTo_27 : decode cX2_linesUpTo 27 = .ok (.iload_n 2, 1) := by decide +kernel
theorem dX2_linesUpTo_28 : decode cX2_linesUpTo 28 = .ok (.ireturn, 1) := by decide +kernel
theorem dX2_meetingOf_0 : decode cX2_meetingOf 0 = .ok (.iload_n 1, 1) := by decide +kernel
theorem dX2_meetingOf_1 : decode cX2_meetingOf 1 = .ok (.istore_n 3, 1) := by decide +kernel
theorem dX2_meetingOf_2 : decode cX2_meetingOf 2 = .ok (.iload_n 2, 1) := by decide +kernel
theorem dX2_meetingOf_3 : decode cX2_meetingOf 3 = .ok (.istore 4, 2) := by decide +kernel
theorem dX2_meetingOf_5 : decode cX2_meetingOf 5 = .ok (.iconst 0, 1) := by decide +kernel
theorem dX2_meetingOf_6 : decode cX2_meetingOf 6 = .ok (.istore 5, 2) := by decide +kernel
theorem dX2_meetingOf_8 : decode cX2_meetingOf 8 = .ok (.iload 5, 2) := by decide +kernel
theorem dX2_meetingOf_10 : decode cX2_meetingOf 10 = .ok (.bipush 12, 2) := by decide +kernel
theorem dX2_meetingOf_12 : decode cX2_meetingOf 12 = .ok (.if_icmp .ge 40, 3) := by decide +kernel
theorem dX2_meetingOf_15 : decode cX2_meetingOf 15 = .ok (.iload_n 3, 1) := by decide +kernel
theorem dX2_meetingOf_16 : decode cX2_meetingOf 16 = .ok (.iload 4, 2) := by decide +kernel
theorem dX2_meetingOf_18 : decode cX2_meetingOf 18 = .ok (.if_icmp .eq 34, 3) := by decide +kernel
theorem dX2_meetingOf_21 : decode cX2_meetingOf 21 = .ok (.iload_n 3, 1) := by decide +kernel
theorem dX2_meetingOf_22 : decode cX2_meetingOf 22 = .ok (.iload 4, 2) := by decide +kernel
theorem dX2_meetingOf_24 : decode cX2_meetingOf 24 = .ok (.if_icmp .le 13, 3) := by decide +kernel
theorem dX2_meetingOf_27 : decode cX2_meetingOf 27 = .ok (.aload_n 0, 1) := by decide +kernel
theorem dX2_meetingOf_28 : decode cX2_meetingOf 28 = .ok (.getfield 18, 3) := by decide +kernel
theorem dX2_meetingOf_31 : decode cX2_meetingOf 31 = .ok (.iload_n 3, 1) := by decide +kernel
theorem dX2_meetingOf_32 : decode cX2_meetingOf 32 = .ok (.iaload, 1) := by decide +kernel
theorem dX2_meetingOf_33 : decode cX2_meetingOf 33 = .ok (.istore_n 3, 1) := by decide +kernel
theorem dX2_meetingOf_34 : decode cX2_meetingOf 34 = .ok (.goto 12, 3) := by decide +kernel
theorem dX2_meetingOf_37 : decode cX2_meetingOf 37 = .ok (.aload_n 0, 1) := by decide +kernel
theorem dX2_meetingOf_38 : decode cX2_meetingOf 38 = .ok (.getfield 18, 3) := by decide +kernel
theorem dX2_meetingOf_41 : decode cX2_meetingOf 41 = .ok (.iload 4, 2) := by decide +kernel
theorem dX2_meetingOf_43 : decode cX2_meetingOf 43 = .ok (.iaload, 1) := by decide +kernel
theorem dX2_meetingOf_44 : decode cX2_meetingOf 44 = .ok (.istore 4, 2) := by decide +kernel
theorem dX2_meetingOf_46 : decode cX2_meetingOf 46 = .ok (.iinc 5 1, 3) := by decide +kernel
theorem dX2_meetingOf_49 : decode cX2_meetingOf 49 = .ok (.goto (-41), 3) := by decide +kernel
theorem dX2_meetingOf_52 : decode cX2_meetingOf 52 = .ok (.iload_n 3, 1) := by decide +kernel
theorem dX2_meetingOf_53 : decode cX2_meetingOf 53 = .ok (.ireturn, 1) := by decide +kernel
set_option maxRecDepth 20000 in
theorem ggX3_init_X8_init : GoodIn wsX3_init wsX8_init := goodIn_r _ [11, 12, 2, 3, 13, 14, 15, 16, 17, 18, 19, 20, 21, 22, 23, 24, 25, 26, 27, 28, 29, 30, 35, 36, 34, 37, 38, 39] (by decide +kernel) (by decide +kernel)
set_option maxRecDepth 20000 in
theorem gX3_init_X8_init_n22 : GoodIn wsX3_init (wsX8_init) := ggX3_init_X8_init
theorem dX3_init_0 : decode cX3_init 0 = .ok (.aload_n 0, 1) := by decide +kernel
theorem dX3_init_1 : decode cX3_init 1 = .ok (.invokespecial 1, 3) := by decide +kernel
theorem dX3_init_4 : decode cX3_init 4 = .ok (.aload_n 0, 1) := by decide +kernel
theorem dX3_init_5 : decode cX3_init 5 = .ok (.bipush 8, 2) := by decide +kernel
theorem dX3_init_7 : decode cX3_init 7 = .ok (.anewarray 9, 3) := by decide +kernel
theorem dX3_init_10 : decode cX3_init 10 = .ok (.putfield 11, 3) := by decide +kernel
theorem dX3_init_13 : decode cX3_init 13 = .ok (.aload_n 0, 1) := by decide +kernel
theorem dX3_init_14 : decode cX3_init 14 = .ok (.iconst 0, 1) := by decide +kernel
theorem dX3_init_15 : decode cX3_init 15 = .ok (.putfield 15, 3) := by decide +kernel
theorem dX3_init_18 : decode cX3_init 18 = .ok (.aload_n 0, 1) := by decide +kernel
theorem dX3_init_19 : decode cX3_init 19 = .ok (.iconst 0, 1) := by decide +kernel
theorem dX3_init_20 : decode cX3_init 20 = .ok (.putfield 19, 3) := by decide +kernel
theorem dX3_init_23 : decode cX3_init 23 = .ok (.iconst 0, 1) := by decide +kernel
theorem dX3_init_24 : decode cX3_init 24 = .ok (.istore_n 1, 1) := by decide +kernel
theorem dX3_init_25 : decode cX3_init 25 = .ok (.iload_n 1, 1) := by decide +kernel
theorem dX3_init_26 : decode cX3_init 26 = .ok (.bipush 8, 2) := by decide +kernel
theorem dX3_init_28 : decode cX3_init 28 = .ok (.if_icmp .ge 22, 3) := by decide +kernel
theorem dX3_init_31 : decode cX3_init 31 = .ok (.aload_n 0, 1) := by decide +kernel
theorem dX3_init_32 : decode cX3_init 32 = .ok (.getfield 11, 3) := by decide +kernel
theorem dX3_init_35 : decode cX3_init 35 = .ok (.iload_n 1, 1) := by decide +kernel
theorem dX3_init_36 : decode cX3_init 36 = .ok (.new 9, 3) := by decide +kernel
theorem dX3_init_39 : decode cX3_init 39 = .ok (.dup, 1) := by decide +kernel
theorem dX3_init_40 : decode cX3_init 40 = .ok (.invokespecial 22, 3) := by decide +kernel
theorem dX3_init_43 : decode cX3_init 43 = .ok (.aastore, 1) := by decide +kernel
theorem dX3_init_44 : decode cX3_init 44 = .ok (.iinc 1 1, 3) := by decide +kernel
theorem dX3_init_47 : decode cX3_init 47 = .ok (.goto (-22), 3) := by decide +kernel
theorem dX3_init_50 : decode cX3_init 50 = .ok (.return_, 1) := by decide +kernel
set_option maxRecDepth 20000 in
theorem ggX3_add_X8_become : GoodIn wsX3_add wsX8_become := goodIn_r _ [12, 13, 14, 15, 16, 17, 18, 19, 20, 21, 22, 23, 24, 25, 26, 27, 28, 32, 33, 34, 35, 36, 37] (by decide +kernel) (by decide +kernel)
set_option maxRecDepth 20000 in
theorem gX3_add_X8_become : GoodIn wsX3_add (wsV RX3 23 RX8 yX8_become wsX8_become) := goodIn_app (goodIn_of _ (by decide +kernel)) ggX3_add_X8_become
theorem dX3_add_0 : decode cX3_add 0 = .ok (.aload_n 0, 1) := by decide +kernel
theorem dX3_add_1 : decode cX3_add 1 = .ok (.getfield 11, 3) := by decide +kernel
theorem dX3_add_4 : decode cX3_add 4 = .ok (.aload_n 0, 1) := by decide +kernel
theorem dX3_add_5 : decode cX3_add 5 = .ok (.getfield 19, 3) := by decide +kernel
theorem dX3_add_8 : decode cX3_add 8 = .ok (.aaload, 1) := by decide +kernel
theorem dX3_add_9 : decode cX3_add 9 = .ok (.aload_n 1, 1) := by decide +kernel
theorem dX3_add_10 : decode cX3_add 10 = .ok (.invokevirtual 23, 3) := by decide +kernel
theorem dX3_add_13 : decode cX3_add 13 = .ok (.aload_n 0, 1) := by decide +kernel
theorem dX3_add_14 : decode cX3_add 14 = .ok (.aload_n 0, 1) := by decide +kernel
theorem dX3_add_15 : decode cX3_add 15 = .ok (.getfield 19, 3) := by decide +kernel
theorem dX3_add_18 : decode cX3_add 18 = .ok (.iconst 1, 1) := by decide +kernel
theorem dX3_add_19 : decode cX3_add 19 = .ok (.iadd, 1) := by decide +kernel
theorem dX3_add_20 : decode cX3_add 20 = .ok (.bipush 8, 2) := by decide +kernel
theorem dX3_add_22 : decode cX3_add 22 = .ok (.irem, 1) := by decide +kernel
theorem dX3_add_23 : decode cX3_add 23 = .ok (.putfield 19, 3) := by decide +kernel
theorem dX3_add_26 : decode cX3_add 26 = .ok (.aload_n 0, 1) := by decide +kernel
theorem dX3_add_27 : decode cX3_add 27 = .ok (.aload_n 0, 1) := by decide +kernel
theorem dX3_add_28 : decode cX3_add 28 = .ok (.getfield 15, 3) := by decide +kernel
theorem dX3_add_31 : decode cX3_add 31 = .ok (.iconst 1, 1) := by decide +kernel
theorem dX3_add_32 : decode cX3_add 32 = .ok (.iadd, 1) := by decide +kernel
theorem dX3_add_33 : decode cX3_add 33 = .ok (.bipush 8, 2) := by decide +kernel
theorem dX3_add_35 : decode cX3_add 35 = .ok (.invokestatic 27, 3) := by decide +kernel
theorem dX3_add_38 : decode cX3_add 38 = .ok (.putfield 15, 3) := by decide +kernel
theorem dX3_add_41 : decode cX3_add 41 = .ok (.return_, 1) := by decide +kernel
set_option maxRecDepth 20000 in
theorem ggX3_giveBack_X8_become : GoodIn wsX3_giveBack wsX8_become := goodIn_r _ [8, 9, 10, 11, 12, 13, 14, 15, 16, 17, 18, 19, 20, 21, 22, 23, 24, 28, 29, 30, 31, 32, 33] (by decide +kernel) (by decide +kernel)
set_option maxRecDepth 20000 in
theorem gX3_giveBack_X8_become : GoodIn wsX3_giveBack (wsV RX3 23 RX8 yX8_become wsX8_become) := goodIn_app (goodIn_of _ (by decide +kernel)) ggX3_giveBack_X8_become
theorem dX3_giveBack_0 : decode cX3_giveBack 0 = .ok (.aload_n 0, 1) := by decide +kernel
theorem dX3_giveBack_1 : decode cX3_giveBack 1 = .ok (.getfield 15, 3) := by decide +kernel
theorem dX3_giveBack_4 : decode cX3_giveBack 4 = .ok (.ifCond .ne 5, 3) := by decide +kernel
theorem dX3_giveBack_7 : decode cX3_giveBack 7 = .ok (.iconst 0, 1) := by decide +kernel
theorem dX3_giveBack_8 : decode cX3_giveBack 8 = .ok (.ireturn, 1) := by decide +kernel
theorem dX3_giveBack_9 : decode cX3_giveBack 9 = .ok (.aload_n 0, 1) := by decide +kernel
theorem dX3_giveBack_10 : decode cX3_giveBack 10 = .ok (.aload_n 0, 1) := by decide +kernel
theorem dX3_giveBack_11 : decode cX3_giveBack 11 = .ok (.getfield 19, 3) := by decide +kernel
theorem dX3_giveBack_14 : decode cX3_giveBack 14 = .ok (.bipush 8, 2) := by decide +kernel
theorem dX3_giveBack_16 : decode cX3_giveBack 16 = .ok (.iadd, 1) := by decide +kernel
theorem dX3_giveBack_17 : decode cX3_giveBack 17 = .ok (.iconst 1, 1) := by decide +kernel
theorem dX3_giveBack_18 : decode cX3_giveBack 18 = .ok (.isub, 1) := by decide +kernel
theorem dX3_giveBack_19 : decode cX3_giveBack 19 = .ok (.bipush 8, 2) := by decide +kernel
theorem dX3_giveBack_21 : decode cX3_giveBack 21 = .ok (.irem, 1) := by decide +kernel
theorem dX3_giveBack_22 : decode cX3_giveBack 22 = .ok (.putfield 19, 3) := by decide +kernel
theorem dX3_giveBack_25 : decode cX3_giveBack 25 = .ok (.aload_n 0, 1) := by decide +kernel
theorem dX3_giveBack_26 : decode cX3_giveBack 26 = .ok (.dup, 1) := by decide +kernel
theorem dX3_giveBack_27 : decode cX3_giveBack 27 = .ok (.getfield 15, 3) := by decide +kernel
theorem dX3_giveBack_30 : decode cX3_giveBack 30 = .ok (.iconst 1, 1) := by decide +kernel
theorem dX3_giveBack_31 : decode cX3_giveBack 31 = .ok (.isub, 1) := by decide +kernel
theorem dX3_giveBack_32 : decode cX3_giveBack 32 = .ok (.putfield 15, 3) := by decide +kernel
theorem dX3_giveBack_35 : decode cX3_giveBack 35 = .ok (.aload_n 1, 1) := by decide +kernel
theorem dX3_giveBack_36 : decode cX3_giveBack 36 = .ok (.aload_n 0, 1) := by decide +kernel
theorem dX3_giveBack_37 : decode cX3_giveBack 37 = .ok (.getfield 11, 3) := by decide +kernel
theorem dX3_giveBack_40 : decode cX3_giveBack 40 = .ok (.aload_n 0, 1) := by decide +kernel
theorem dX3_giveBack_41 : decode cX3_giveBack 41 = .ok (.getfield 19, 3) := by decide +kernel
theorem dX3_giveBack_44 : decode cX3_giveBack 44 = .ok (.aaload, 1) := by decide +kernel
theorem dX3_giveBack_45 : decode cX3_giveBack 45 = .ok (.invokevirtual 23, 3) := by decide +kernel
theorem dX3_giveBack_48 : decode cX3_giveBack 48 = .ok (.iconst 1, 1) := by decide +kernel
theorem dX3_giveBack_49 : decode cX3_giveBack 49 = .ok (.ireturn, 1) := by decide +kernel
set_option maxRecDepth 20000 in
theorem ggX4_init_X1_init : GoodIn wsX4_init wsX1_init := goodIn_r _ [10, 11, 2, 3, 12, 13, 14, 15, 16, 17] (by decide +kernel) (by decide +kernel)
set_option maxRecDepth 20000 in
theorem gX4_init_X1_init_n9 : GoodIn wsX4_init (wsX1_init) := ggX4_init_X1_init
theorem dX4_init_0 : decode cX4_init 0 = .ok (.aload_n 0, 1) := by decide +kernel
theorem dX4_init_1 : decode cX4_init 1 = .ok (.invokespecial 1, 3) := by decide +kernel
theorem dX4_init_4 : decode cX4_init 4 = .ok (.aload_n 0, 1) := by decide +kernel
theorem dX4_init_5 : decode cX4_init 5 = .ok (.new 7, 3) := by decide +kernel
theorem dX4_init_8 : decode cX4_init 8 = .ok (.dup, 1) := by decide +kernel
theorem dX4_init_9 : decode cX4_init 9 = .ok (.invokespecial 9, 3) := by decide +kernel
theorem dX4_init_12 : decode cX4_init 12 = .ok (.putfield 10, 3) := by decide +kernel
theorem dX4_init_15 : decode cX4_init 15 = .ok (.aload_n 0, 1) := by decide +kernel
theorem dX4_init_16 : decode cX4_init 16 = .ok (.new 7, 3) := by decide +kernel
theorem dX4_init_19 : decode cX4_init 19 = .ok (.dup, 1) := by decide +kernel
theorem dX4_init_20 : decode cX4_init 20 = .ok (.invokespecial 9, 3) := by decide +kernel
theorem dX4_init_23 : decode cX4_init 23 = .ok (.putfield 16, 3) := by decide +kernel
theorem dX4_init_26 : decode cX4_init 26 = .ok (.return_, 1) := by decide +kernel
set_option maxRecDepth 20000 in
theorem ggX4_become_X1_become : GoodIn wsX4_become wsX1_become := goodIn_r _ [7, 8, 9, 10, 13, 14, 15] (by decide +kernel) (by decide +kernel)
set_option maxRecDepth 20000 in
theorem gX4_become_X1_become : GoodIn wsX4_become (wsV RX4 19 RX1 yX1_become wsX1_become) := goodIn_app (goodIn_of _ (by decide +kernel)) ggX4_become_X1_become
theorem dX4_become_0 : decode cX4_become 0 = .ok (.aload_n 0, 1) := by decide +kernel
theorem dX4_become_1 : decode cX4_become 1 = .ok (.getfield 10, 3) := by decide +kernel
theorem dX4_become_4 : decode cX4_become 4 = .ok (.aload_n 1, 1) := by decide +kernel
theorem dX4_become_5 : decode cX4_become 5 = .ok (.getfield 10, 3) := by decide +kernel
theorem dX4_become_8 : decode cX4_become 8 = .ok (.invokevirtual 19, 3) := by decide +kernel
theorem dX4_become_11 : decode cX4_become 11 = .ok (.aload_n 0, 1) := by decide +kernel
theorem dX4_become_12 : decode cX4_become 12 = .ok (.getfield 16, 3) := by decide +kernel
theorem dX4_become_15 : decode cX4_become 15 = .ok (.aload_n 1, 1) := by decide +kernel
theorem dX4_become_16 : decode cX4_become 16 = .ok (.getfield 16, 3) := by decide +kernel
theorem dX4_become_19 : decode cX4_become 19 = .ok (.invokevirtual 19, 3) := by decide +kernel
theorem dX4_become_22 : decode cX4_become 22 = .ok (.return_, 1) := by decide +kernel
set_option maxRecDepth 20000 in
theorem ggX4_clear_X1_become_ : GoodIn wsX4_clear wsX1_become_ := goodIn_r _ [7, 8, 9, 10, 11, 12, 13, 14, 6, 15, 16, 17, 18, 19, 22, 23, 24] (by decide +kernel) (by decide +kernel)
set_option maxRecDepth 20000 in
theorem gX4_clear_X1_become_ : GoodIn wsX4_clear (wsV RX4 23 RX1 yX1_become_ wsX1_become_) := goodIn_app (goodIn_of _ (by decide +kernel)) ggX4_clear_X1_become_
theorem dX4_clear_0 : decode cX4_clear 0 = .ok (.aload_n 0, 1) := by decide +kernel
theorem dX4_clear_1 : decode cX4_clear 1 = .ok (.getfield 10, 3) := by decide +kernel
theorem dX4_clear_4 : decode cX4_clear 4 = .ok (.lconst 0, 1) := by decide +kernel
theorem dX4_clear_5 : decode cX4_clear 5 = .ok (.lconst 1, 1) := by decide +kernel
theorem dX4_clear_6 : decode cX4_clear 6 = .ok (.invokevirtual 23, 3) := by decide +kernel
theorem dX4_clear_9 : decode cX4_clear 9 = .ok (.aload_n 0, 1) := by decide +kernel
theorem dX4_clear_10 : decode cX4_clear 10 = .ok (.getfield 16, 3) := by decide +kernel
theorem dX4_clear_13 : decode cX4_clear 13 = .ok (.lconst 0, 1) := by decide +kernel
theorem dX4_clear_14 : decode cX4_clear 14 = .ok (.lconst 1, 1) := by decide +kernel
theorem dX4_clear_15 : decode cX4_clear 15 = .ok (.invokevirtual 23, 3) := by decide +kernel
theorem dX4_clear_18 : decode cX4_clear 18 = .ok (.return_, 1) := by decide +kernel
set_option maxRecDepth 20000 in
theorem ggX4_add_X1_add : GoodIn wsX4_add wsX1_add := goodIn_r _ [7, 8, 9, 10, 11, 12, 6, 13, 14, 15, 16, 17, 18, 19, 20, 21, 22, 23, 26, 27, 28] (by decide +kernel) (by decide +kernel)
set_option maxRecDepth 20000 in
theorem gX4_add_X1_add : GoodIn wsX4_add (wsV RX4 26 RX1 yX1_add wsX1_add) := goodIn_app (goodIn_of _ (by decide +kernel)) ggX4_add_X1_add
theorem dX4_add_0 : decode cX4_add 0 = .ok (.aload_n 0, 1) := by decide +kernel
theorem dX4_add_1 : decode cX4_add 1 = .ok (.getfield 10, 3) := by decide +kernel
theorem dX4_add_4 : decode cX4_add 4 = .ok (.aload_n 1, 1) := by decide +kernel
theorem dX4_add_5 : decode cX4_add 5 = .ok (.getfield 10, 3) := by decide +kernel
theorem dX4_add_8 : decode cX4_add 8 = .ok (.iload_n 2, 1) := by decide +kernel
theorem dX4_add_9 : decode cX4_add 9 = .ok (.invokevirtual 26, 3) := by decide +kernel
theorem dX4_add_12 : decode cX4_add 12 = .ok (.aload_n 0, 1) := by decide +kernel
theorem dX4_add_13 : decode cX4_add 13 = .ok (.getfield 16, 3) := by decide +kernel
theorem dX4_add_16 : decode cX4_add 16 = .ok (.aload_n 1, 1) := by decide +kernel
theorem dX4_add_17 : decode cX4_add 17 = .ok (.getfield 16, 3) := by decide +kernel
theorem dX4_add_20 : decode cX4_add 20 = .ok (.iload_n 2, 1) := by decide +kernel
theorem dX4_add_21 : decode cX4_add 21 = .ok (.invokevirtual 26, 3) := by decide +kernel
theorem dX4_add_24 : decode cX4_add 24 = .ok (.return_, 1) := by decide +kernel
set_option maxRecDepth 20000 in
theorem ggX4_rotateOnce_X1_add : GoodIn wsX4_rotateOnce wsX1_add := goodIn_r _ [7, 8, 9, 10, 11, 12, 6, 13, 14, 15, 16, 17, 18, 19, 20, 21, 22, 23, 30, 31, 32] (by decide +kernel) (by decide +kernel)
set_option maxRecDepth 20000 in
theorem gX4_rotateOnce_X1_add : GoodIn wsX4_rotateOnce (wsV RX4 26 RX1 yX1_add wsX1_add) := goodIn_app (goodIn_of _ (by decide +kernel)) ggX4_rotateOnce_X1_add
set_option maxRecDepth 20000 in
theorem ggX4_rotateOnce_X1_negate : GoodIn wsX4_rotateOnce wsX1_negate := goodIn_r _ [27, 10, 30, 31, 32] (by decide +kernel) (by decide +kernel)
set_option maxRecDepth 20000 in
theorem gX4_rotateOnce_X1_negate : GoodIn wsX4_rotateOnce (wsV RX4 30 RX1 yX1_negate wsX1_negate) := goodIn_app (goodIn_of _ (by decide +kernel)) ggX4_rotateOnce_X1_negate
theorem dX4_rotateOnce_0 : decode cX4_rotateOnce 0 = .ok (.aload_n 0, 1) := by decide +kernel
theorem dX4_rotateOnce_1 : decode cX4_rotateOnce 1 = .ok (.getfield 10, 3) := by decide +kernel
theorem dX4_rotateOnce_4 : decode cX4_rotateOnce 4 = .ok (.aload_n 0, 1) := by decide +kernel
theorem dX4_rotateOnce_5 : decode cX4_rotateOnce 5 = .ok (.getfield 16, 3) := by decide +kernel
theorem dX4_rotateOnce_8 : decode cX4_rotateOnce 8 = .ok (.iconst (-1), 1) := by decide +kernel
theorem dX4_rotateOnce_9 : decode cX4_rotateOnce 9 = .ok (.invokevirtual 26, 3) := by decide +kernel
theorem dX4_rotateOnce_12 : decode cX4_rotateOnce 12 = .ok (.aload_n 0, 1) := by decide +kernel
theorem dX4_rotateOnce_13 : decode cX4_rotateOnce 13 = .ok (.getfield 16, 3) := by decide +kernel
theorem dX4_rotateOnce_16 : decode cX4_rotateOnce 16 = .ok (.invokevirtual 30, 3) := by decide +kernel
theorem dX4_rotateOnce_19 : decode cX4_rotateOnce 19 = .ok (.aload_n 0, 1) := by decide +kernel
theorem dX4_rotateOnce_20 : decode cX4_rotateOnce 20 = .ok (.getfield 10, 3) := by decide +kernel
theorem dX4_rotateOnce_23 : decode cX4_rotateOnce 23 = .ok (.astore_n 1, 1) := by decide +kernel
theorem dX4_rotateOnce_24 : decode cX4_rotateOnce 24 = .ok (.aload_n 0, 1) := by decide +kernel
theorem dX4_rotateOnce_25 : decode cX4_rotateOnce 25 = .ok (.aload_n 0, 1) := by decide +kernel
theorem dX4_rotateOnce_26 : decode cX4_rotateOnce 26 = .ok (.getfield 16, 3) := by decide +kernel
theorem dX4_rotateOnce_29 : decode cX4_rotateOnce 29 = .ok (.putfield 10, 3) := by decide +kernel
theorem dX4_rotateOnce_32 : decode cX4_rotateOnce 32 = .ok (.aload_n 0, 1) := by decide +kernel
theorem dX4_rotateOnce_33 : decode cX4_rotateOnce 33 = .ok (.aload_n 1, 1) := by decide +kernel
theorem dX4_rotateOnce_34 : decode cX4_rotateOnce 34 = .ok (.putfield 16, 3) := by decide +kernel
theorem dX4_rotateOnce_37 : decode cX4_rotateOnce 37 = .ok (.return_, 1) := by decide +kernel
set_option maxRecDepth 20000 in
theorem ggX4_divideByThree_X1_divideByThree : GoodIn wsX4_divideByThree wsX1_divideByThree := goodIn_r _ [7, 8, 9, 10, 11, 12, 13, 14, 6, 15, 16, 17, 18, 19, 20, 21, 22, 23, 24, 27, 28, 29] (by decide +kernel) (by decide +kernel)
set_option maxRecDepth 20000 in
theorem gX4_divideByThree_X1_divideByThree : GoodIn wsX4_divideByThree (wsV RX4 33 RX1 yX1_divideByThree wsX1_divideByThree) := goodIn_app (goodIn_of _ (by decide +kernel)) ggX4_divideByThree_X1_divideByThree
theorem dX4_divideByThree_0 : decode cX4_divideByThree 0 = .ok (.aload_n 0, 1) := by decide +kernel
theorem dX4_divideByThree_1 : decode cX4_divideByThree 1 = .ok (.getfield 10, 3) := by decide +kernel
theorem dX4_divideByThree_4 : decode cX4_divideByThree 4 = .ok (.invokevirtual 33, 3) := by decide +kernel
theorem dX4_divideByThree_7 : decode cX4_divideByThree 7 = .ok (.aload_n 0, 1) := by decide +kernel
theorem dX4_divideByThree_8 : decode cX4_divideByThree 8 = .ok (.getfield 16, 3) := by decide +kernel
theorem dX4_divideByThree_11 : decode cX4_divideByThree 11 = .ok (.invokevirtual 33, 3) := by decide +kernel
theorem dX4_divideByThree_14 : decode cX4_divideByThree 14 = .ok (.return_, 1) := by decide +kernel
theorem dX4_isOver_0 : decode cX4_isOver 0 = .ok (.aload_n 0, 1) := by decide +kernel
theorem dX4_isOver_1 : decode cX4_isOver 1 = .ok (.getfield 10, 3) := by decide +kernel
theorem dX4_isOver_4 : decode cX4_isOver 4 = .ok (.getfield 36, 3) := by decide +kernel
theorem dX4_isOver_7 : decode cX4_isOver 7 = .ok (.ifCond .ne 13, 3) := by decide +kernel
theorem dX4_isOver_10 : decode cX4_isOver 10 = .ok (.aload_n 0, 1) := by decide +kernel
theorem dX4_isOver_11 : decode cX4_isOver 11 = .ok (.getfield 16, 3) := by decide +kernel
theorem dX4_isOver_14 : decode cX4_isOver 14 = .ok (.getfield 36, 3) := by decide +kernel
theorem dX4_isOver_17 : decode cX4_isOver 17 = .ok (.ifCond .eq 7, 3) := by decide +kernel
theorem dX4_isOver_20 : decode cX4_isOver 20 = .ok (.iconst 1, 1) := by decide +kernel
theorem dX4_isOver_21 : decode cX4_isOver 21 = .ok (.goto 4, 3) := by decide +kernel
theorem dX4_isOver_24 : decode cX4_isOver 24 = .ok (.iconst 0, 1) := by decide +kernel
theorem dX4_isOver_25 : decode cX4_isOver 25 = .ok (.ireturn, 1) := by decide +kernel
theorem dX4_isNought_0 : decode cX4_isNought 0 = .ok (.aload_n 0, 1) := by decide +kernel
theorem dX4_isNought_1 : decode cX4_isNought 1 = .ok (.getfield 10, 3) := by decide +kernel
theorem dX4_isNought_4 : decode cX4_isNought 4 = .ok (.getfield 40, 3) := by decide +kernel
theorem dX4_isNought_7 : decode cX4_isNought 7 = .ok (.lconst 0, 1) := by decide +kernel
theorem dX4_isNought_8 : decode cX4_isNought 8 = .ok (.lcmp, 1) := by decide +kernel
theorem dX4_isNought_9 : decode cX4_isNought 9 = .ok (.ifCond .ne 19, 3) := by decide +kernel
theorem dX4_isNought_12 : decode cX4_isNought 12 = .ok (.aload_n 0, 1) := by decide +kernel
theorem dX4_isNought_13 : decode cX4_isNought 13 = .ok (.getfield 16, 3) := by decide +kernel
theorem dX4_isNought_16 : decode cX4_isNought 16 = .ok (.getfield 40, 3) := by decide +kernel
theorem dX4_isNought_19 : decode cX4_isNought 19 = .ok (.lconst 0, 1) := by decide +kernel
theorem dX4_isNought_20 : decode cX4_isNought 20 = .ok (.lcmp, 1) := by decide +kernel
theorem dX4_isNought_21 : decode cX4_isNought 21 = .ok (.ifCond .ne 7, 3) := by decide +kernel
theorem dX4_isNought_24 : decode cX4_isNought 24 = .ok (.iconst 1, 1) := by decide +kernel
theorem dX4_isNought_25 : decode cX4_isNought 25 = .ok (.goto 4, 3) := by decide +kernel
theorem dX4_isNought_28 : decode cX4_isNought 28 = .ok (.iconst 0, 1) := by decide +kernel
theorem dX4_isNought_29 : decode cX4_isNought 29 = .ok (.ireturn, 1) := by decide +kernel
set_option maxRecDepth 20000 in
theorem ggX4_tell_X1_tell : GoodIn wsX4_tell wsX1_tell := goodIn_r _ [7, 8, 9, 10, 11, 14, 15, 16] (by decide +kernel) (by decide +kernel)
set_option maxRecDepth 20000 in
theorem gX4_tell_X1_tell : GoodIn wsX4_tell (wsV RX4 44 RX1 yX1_tell wsX1_tell) := goodIn_app (goodIn_of _ (by decide +kernel)) ggX4_tell_X1_tell
theorem dX4_tell_0 : decode cX4_tell 0 = .ok (.iload_n 1, 1) := by decide +kernel
theorem dX4_tell_1 : decode cX4_tell 1 = .ok (.ifCond .ne 14, 3) := by decide +kernel
theorem dX4_tell_4 : decode cX4_tell 4 = .ok (.aload_n 0, 1) := by decide +kernel
theorem dX4_tell_5 : decode cX4_tell 5 = .ok (.getfield 10, 3) := by decide +kernel
theorem dX4_tell_8 : decode cX4_tell 8 = .ok (.iload_n 2, 1) := by decide +kernel
theorem dX4_tell_9 : decode cX4_tell 9 = .ok (.invokevirtual 44, 3) := by decide +kernel
theorem dX4_tell_12 : decode cX4_tell 12 = .ok (.goto 11, 3) := by decide +kernel
theorem dX4_tell_15 : decode cX4_tell 15 = .ok (.aload_n 0, 1) := by decide +kernel
theorem dX4_tell_16 : decode cX4_tell 16 = .ok (.getfield 16, 3) := by decide +kernel
theorem dX4_tell_19 : decode cX4_tell 19 = .ok (.iload_n 2, 1) := by decide +kernel
theorem dX4_tell_20 : decode cX4_tell 20 = .ok (.invokevirtual 44, 3) := by decide +kernel
theorem dX4_tell_23 : decode cX4_tell 23 = .ok (.lreturn, 1) := by decide +kernel
set_option maxRecDepth 20000 in
theorem ggX5_init_X4_init : GoodIn wsX5_init wsX4_init := goodIn_r _ [16, 17, 2, 3, 18, 10, 11, 19, 20, 21, 22, 23, 24, 25, 26, 34, 35, 36, 27, 28] (by decide +kernel) (by decide +kernel)
set_option maxRecDepth 20000 in
theorem gX5_init_X4_init_n11 : GoodIn wsX5_init (wsX4_init) := ggX5_init_X4_init
set_option maxRecDepth 20000 in
theorem ggX5_init_X1_init : GoodIn wsX5_init wsX1_init := goodIn_r _ [22, 23, 2, 3, 24, 25, 26, 34, 35, 36] (by decide +kernel) (by decide +kernel)
set_option maxRecDepth 20000 in
theorem gX5_init_X1_init_n23 : GoodIn wsX5_init (wsX1_init) := ggX5_init_X1_init
theorem dX5_init_0 : decode cX5_init 0 = .ok (.aload_n 0, 1) := by decide +kernel
theorem dX5_init_1 : decode cX5_init 1 = .ok (.invokespecial 3, 3) := by decide +kernel
theorem dX5_init_4 : decode cX5_init 4 = .ok (.aload_n 0, 1) := by decide +kernel
theorem dX5_init_5 : decode cX5_init 5 = .ok (.new 9, 3) := by decide +kernel
theorem dX5_init_8 : decode cX5_init 8 = .ok (.dup, 1) := by decide +kernel
theorem dX5_init_9 : decode cX5_init 9 = .ok (.invokespecial 11, 3) := by decide +kernel
theorem dX5_init_12 : decode cX5_init 12 = .ok (.putfield 12, 3) := by decide +kernel
theorem dX5_init_15 : decode cX5_init 15 = .ok (.aload_n 0, 1) := by decide +kernel
theorem dX5_init_16 : decode cX5_init 16 = .ok (.new 9, 3) := by decide +kernel
theorem dX5_init_19 : decode cX5_init 19 = .ok (.dup, 1) := by decide +kernel
theorem dX5_init_20 : decode cX5_init 20 = .ok (.invokespecial 11, 3) := by decide +kernel
theorem dX5_init_23 : decode cX5_init 23 = .ok (.putfield 18, 3) := by decide +kernel
theorem dX5_init_26 : decode cX5_init 26 = .ok (.aload_n 0, 1) := by decide +kernel
theorem dX5_init_27 : decode cX5_init 27 = .ok (.new 21, 3) := by decide +kernel
theorem dX5_init_30 : decode cX5_init 30 = .ok (.dup, 1) := by decide +kernel
theorem dX5_init_31 : decode cX5_init 31 = .ok (.invokespecial 23, 3) := by decide +kernel
theorem dX5_init_34 : decode cX5_init 34 = .ok (.putfield 24, 3) := by decide +kernel
theorem dX5_init_37 : decode cX5_init 37 = .ok (.aload_n 0, 1) := by decide +kernel
theorem dX5_init_38 : decode cX5_init 38 = .ok (.new 21, 3) := by decide +kernel
theorem dX5_init_41 : decode cX5_init 41 = .ok (.dup, 1) := by decide +kernel
theorem dX5_init_42 : decode cX5_init 42 = .ok (.invokespecial 23, 3) := by decide +kernel
theorem dX5_init_45 : decode cX5_init 45 = .ok (.putfield 28, 3) := by decide +kernel
theorem dX5_init_48 : decode cX5_init 48 = .ok (.aload_n 0, 1) := by decide +kernel
theorem dX5_init_49 : decode cX5_init 49 = .ok (.new 21, 3) := by decide +kernel
theorem dX5_init_52 : decode cX5_init 52 = .ok (.dup, 1) := by decide +kernel
theorem dX5_init_53 : decode cX5_init 53 = .ok (.invokespecial 23, 3) := by decide +kernel
theorem dX5_init_56 : decode cX5_init 56 = .ok (.putfield 31, 3) := by decide +kernel
theorem dX5_init_59 : decode cX5_init 59 = .ok (.return_, 1) := by decide +kernel
set_option maxRecDepth 20000 in
theorem ggX5_combineAll_X4_become : GoodIn wsX5_combineAll wsX4_become := goodIn_r _ [6, 7, 8, 9, 10, 11, 12, 13, 14, 15, 16, 53, 54, 55, 56, 57] (by decide +kernel) (by decide +kernel)
set_option maxRecDepth 20000 in
theorem gX5_combineAll_X4_become : GoodIn wsX5_combineAll (wsV RX5 40 RX4 yX4_become wsX4_become) := goodIn_app (goodIn_of _ (by decide +kernel)) ggX5_combineAll_X4_become
set_option maxRecDepth 20000 in
theorem ggX5_combineAll_X5_addTurned : GoodIn wsX5_combineAll wsX5_addTurned := goodIn_r _ [21, 22, 2, 3, 4, 5, 6, 7, 8, 9, 10, 11, 12, 13, 14, 15, 16, 23, 24, 25, 26, 27, 28, 29, 30, 31, 32, 33, 34, 35, 36, 37, 38, 39, 40, 41, 42, 43, 44, 45, 46, 47, 48, 49, 50, 51, 58, 59, 60, 61, 62, 53, 54, 55, 56, 57] (by decide +kernel) (by decide +kernel)
set_option maxRecDepth 20000 in
theorem gX5_combineAll_X5_addTurned : GoodIn wsX5_combineAll (wsV RX5 44 RX5 yX5_addTurned wsX5_addTurned) := goodIn_app (goodIn_of _ (by decide +kernel)) ggX5_combineAll_X5_addTurned
theorem dX5_combineAll_0 : decode cX5_combineAll 0 = .ok (.iconst 0, 1) := by decide +kernel
theorem dX5_combineAll_1 : decode cX5_combineAll 1 = .ok (.istore 4, 2) := by decide +kernel
theorem dX5_combineAll_3 : decode cX5_combineAll 3 = .ok (.iload 4, 2) := by decide +kernel
theorem dX5_combineAll_5 : decode cX5_combineAll 5 = .ok (.iconst 3, 1) := by decide +kernel
theorem dX5_combineAll_6 : decode cX5_combineAll 6 = .ok (.if_icmp .ge 67, 3) := by decide +kernel
theorem dX5_combineAll_9 : decode cX5_combineAll 9 = .ok (.aload_n 3, 1) := by decide +kernel
theorem dX5_combineAll_10 : decode cX5_combineAll 10 = .ok (.getfield 34, 3) := by decide +kernel
theorem dX5_combineAll_13 : decode cX5_combineAll 13 = .ok (.iload 4, 2) := by decide +kernel
theorem dX5_combineAll_15 : decode cX5_combineAll 15 = .ok (.aaload, 1) := by decide +kernel
theorem dX5_combineAll_16 : decode cX5_combineAll 16 = .ok (.astore 5, 2) := by decide +kernel
theorem dX5_combineAll_18 : decode cX5_combineAll 18 = .ok (.aload 5, 2) := by decide +kernel
theorem dX5_combineAll_20 : decode cX5_combineAll 20 = .ok (.aload_n 1, 1) := by decide +kernel
theorem dX5_combineAll_21 : decode cX5_combineAll 21 = .ok (.getfield 34, 3) := by decide +kernel
theorem dX5_combineAll_24 : decode cX5_combineAll 24 = .ok (.iconst 0, 1) := by decide +kernel
