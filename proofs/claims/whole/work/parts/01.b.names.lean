theorem dX0_init_0 : decode cX0_init 0 = .ok (.aload_n 0, 1) := by decide +kernel
theorem dX0_init_1 : decode cX0_init 1 = .ok (.invokespecial 3, 3) := by decide +kernel
theorem dX0_init_4 : decode cX0_init 4 = .ok (.aload_n 0, 1) := by decide +kernel
theorem dX0_init_5 : decode cX0_init 5 = .ok (.getstatic 9, 3) := by decide +kernel
theorem dX0_init_8 : decode cX0_init 8 = .ok (.invokevirtual 13, 3) := by decide +kernel
theorem dX0_init_11 : decode cX0_init 11 = .ok (.checkcast 14, 3) := by decide +kernel
theorem dX0_init_14 : decode cX0_init 14 = .ok (.putfield 18, 3) := by decide +kernel
theorem dX0_init_17 : decode cX0_init 17 = .ok (.aload_n 0, 1) := by decide +kernel
theorem dX0_init_18 : decode cX0_init 18 = .ok (.bipush 8, 2) := by decide +kernel
theorem dX0_init_20 : decode cX0_init 20 = .ok (.newarray .int, 2) := by decide +kernel
theorem dX0_init_22 : decode cX0_init 22 = .ok (.putfield 23, 3) := by decide +kernel
theorem dX0_init_25 : decode cX0_init 25 = .ok (.aload_n 0, 1) := by decide +kernel
theorem dX0_init_26 : decode cX0_init 26 = .ok (.bipush 9, 2) := by decide +kernel
theorem dX0_init_28 : decode cX0_init 28 = .ok (.newarray .int, 2) := by decide +kernel
theorem dX0_init_30 : decode cX0_init 30 = .ok (.putfield 26, 3) := by decide +kernel
theorem dX0_init_33 : decode cX0_init 33 = .ok (.aload_n 0, 1) := by decide +kernel
theorem dX0_init_34 : decode cX0_init 34 = .ok (.bipush 64, 2) := by decide +kernel
theorem dX0_init_36 : decode cX0_init 36 = .ok (.newarray .int, 2) := by decide +kernel
theorem dX0_init_38 : decode cX0_init 38 = .ok (.putfield 29, 3) := by decide +kernel
theorem dX0_init_41 : decode cX0_init 41 = .ok (.aload_n 0, 1) := by decide +kernel
theorem dX0_init_42 : decode cX0_init 42 = .ok (.bipush 64, 2) := by decide +kernel
theorem dX0_init_44 : decode cX0_init 44 = .ok (.newarray .int, 2) := by decide +kernel
theorem dX0_init_46 : decode cX0_init 46 = .ok (.putfield 32, 3) := by decide +kernel
theorem dX0_init_49 : decode cX0_init 49 = .ok (.aload_n 0, 1) := by decide +kernel
theorem dX0_init_50 : decode cX0_init 50 = .ok (.bipush 64, 2) := by decide +kernel
theorem dX0_init_52 : decode cX0_init 52 = .ok (.newarray .int, 2) := by decide +kernel
theorem dX0_init_54 : decode cX0_init 54 = .ok (.putfield 35, 3) := by decide +kernel
theorem dX0_init_57 : decode cX0_init 57 = .ok (.aload_n 0, 1) := by decide +kernel
theorem dX0_init_58 : decode cX0_init 58 = .ok (.sipush 256, 3) := by decide +kernel
theorem dX0_init_61 : decode cX0_init 61 = .ok (.newarray .int, 2) := by decide +kernel
theorem dX0_init_63 : decode cX0_init 63 = .ok (.putfield 38, 3) := by decide +kernel
theorem dX0_init_66 : decode cX0_init 66 = .ok (.aload_n 0, 1) := by decide +kernel
theorem dX0_init_67 : decode cX0_init 67 = .ok (.bipush 8, 2) := by decide +kernel
theorem dX0_init_69 : decode cX0_init 69 = .ok (.newarray .int, 2) := by decide +kernel
theorem dX0_init_71 : decode cX0_init 71 = .ok (.putfield 41, 3) := by decide +kernel
theorem dX0_init_74 : decode cX0_init 74 = .ok (.return_, 1) := by decide +kernel
theorem dX0_copyFrom_0 : decode cX0_copyFrom 0 = .ok (.aload_n 1, 1) := by decide +kernel
theorem dX0_copyFrom_1 : decode cX0_copyFrom 1 = .ok (.getfield 18, 3) := by decide +kernel
theorem dX0_copyFrom_4 : decode cX0_copyFrom 4 = .ok (.iconst 0, 1) := by decide +kernel
theorem dX0_copyFrom_5 : decode cX0_copyFrom 5 = .ok (.aload_n 0, 1) := by decide +kernel
theorem dX0_copyFrom_6 : decode cX0_copyFrom 6 = .ok (.getfield 18, 3) := by decide +kernel
theorem dX0_copyFrom_9 : decode cX0_copyFrom 9 = .ok (.iconst 0, 1) := by decide +kernel
theorem dX0_copyFrom_10 : decode cX0_copyFrom 10 = .ok (.aload_n 0, 1) := by decide +kernel
theorem dX0_copyFrom_11 : decode cX0_copyFrom 11 = .ok (.getfield 18, 3) := by decide +kernel
theorem dX0_copyFrom_14 : decode cX0_copyFrom 14 = .ok (.arraylength, 1) := by decide +kernel
theorem dX0_copyFrom_15 : decode cX0_copyFrom 15 = .ok (.invokestatic 44, 3) := by decide +kernel
theorem dX0_copyFrom_18 : decode cX0_copyFrom 18 = .ok (.aload_n 1, 1) := by decide +kernel
theorem dX0_copyFrom_19 : decode cX0_copyFrom 19 = .ok (.getfield 23, 3) := by decide +kernel
theorem dX0_copyFrom_22 : decode cX0_copyFrom 22 = .ok (.iconst 0, 1) := by decide +kernel
theorem dX0_copyFrom_23 : decode cX0_copyFrom 23 = .ok (.aload_n 0, 1) := by decide +kernel
theorem dX0_copyFrom_24 : decode cX0_copyFrom 24 = .ok (.getfield 23, 3) := by decide +kernel
theorem dX0_copyFrom_27 : decode cX0_copyFrom 27 = .ok (.iconst 0, 1) := by decide +kernel
theorem dX0_copyFrom_28 : decode cX0_copyFrom 28 = .ok (.aload_n 0, 1) := by decide +kernel
theorem dX0_copyFrom_29 : decode cX0_copyFrom 29 = .ok (.getfield 23, 3) := by decide +kernel
theorem dX0_copyFrom_32 : decode cX0_copyFrom 32 = .ok (.arraylength, 1) := by decide +kernel
theorem dX0_copyFrom_33 : decode cX0_copyFrom 33 = .ok (.invokestatic 44, 3) := by decide +kernel
theorem dX0_copyFrom_36 : decode cX0_copyFrom 36 = .ok (.aload_n 1, 1) := by decide +kernel
theorem dX0_copyFrom_37 : decode cX0_copyFrom 37 = .ok (.getfield 26, 3) := by decide +kernel
theorem dX0_copyFrom_40 : decode cX0_copyFrom 40 = .ok (.iconst 0, 1) := by decide +kernel
theorem dX0_copyFrom_41 : decode cX0_copyFrom 41 = .ok (.aload_n 0, 1) := by decide +kernel
theorem dX0_copyFrom_42 : decode cX0_copyFrom 42 = .ok (.getfield 26, 3) := by decide +kernel
theorem dX0_copyFrom_45 : decode cX0_copyFrom 45 = .ok (.iconst 0, 1) := by decide +kernel
theorem dX0_copyFrom_46 : decode cX0_copyFrom 46 = .ok (.aload_n 0, 1) := by decide +kernel
theorem dX0_copyFrom_47 : decode cX0_copyFrom 47 = .ok (.getfield 26, 3) := by decide +kernel
theorem dX0_copyFrom_50 : decode cX0_copyFrom 50 = .ok (.arraylength, 1) := by decide +kernel
theorem dX0_copyFrom_51 : decode cX0_copyFrom 51 = .ok (.invokestatic 44, 3) := by decide +kernel
theorem dX0_copyFrom_54 : decode cX0_copyFrom 54 = .ok (.aload_n 1, 1) := by decide +kernel
theorem dX0_copyFrom_55 : decode cX0_copyFrom 55 = .ok (.getfield 29, 3) := by decide +kernel
theorem dX0_copyFrom_58 : decode cX0_copyFrom 58 = .ok (.iconst 0, 1) := by decide +kernel
theorem dX0_copyFrom_59 : decode cX0_copyFrom 59 = .ok (.aload_n 0, 1) := by decide +kernel
theorem dX0_copyFrom_60 : decode cX0_copyFrom 60 = .ok (.getfield 29, 3) := by decide +kernel
theorem dX0_copyFrom_63 : decode cX0_copyFrom 63 = .ok (.iconst 0, 1) := by decide +kernel
theorem dX0_copyFrom_64 : decode cX0_copyFrom 64 = .ok (.aload_n 0, 1) := by decide +kernel
theorem dX0_copyFrom_65 : decode cX0_copyFrom 65 = .ok (.getfield 29, 3) := by decide +kernel
theorem dX0_copyFrom_68 : decode cX0_copyFrom 68 = .ok (.arraylength, 1) := by decide +kernel
theorem dX0_copyFrom_69 : decode cX0_copyFrom 69 = .ok (.invokestatic 44, 3) := by decide +kernel
theorem dX0_copyFrom_72 : decode cX0_copyFrom 72 = .ok (.aload_n 1, 1) := by decide +kernel
theorem dX0_copyFrom_73 : decode cX0_copyFrom 73 = .ok (.getfield 32, 3) := by decide +kernel
theorem dX0_copyFrom_76 : decode cX0_copyFrom 76 = .ok (.iconst 0, 1) := by decide +kernel
theorem dX0_copyFrom_77 : decode cX0_copyFrom 77 = .ok (.aload_n 0, 1) := by decide +kernel
theorem dX0_copyFrom_78 : decode cX0_copyFrom 78 = .ok (.getfield 32, 3) := by decide +kernel
theorem dX0_copyFrom_81 : decode cX0_copyFrom 81 = .ok (.iconst 0, 1) := by decide +kernel
theorem dX0_copyFrom_82 : decode cX0_copyFrom 82 = .ok (.aload_n 0, 1) := by decide +kernel
theorem dX0_copyFrom_83 : decode cX0_copyFrom 83 = .ok (.getfield 32, 3) := by decide +kernel
theorem dX0_copyFrom_86 : decode cX0_copyFrom 86 = .ok (.arraylength, 1) := by decide +kernel
theorem dX0_copyFrom_87 : decode cX0_copyFrom 87 = .ok (.invokestatic 44, 3) := by decide +kernel
theorem dX0_copyFrom_90 : decode cX0_copyFrom 90 = .ok (.aload_n 1, 1) := by decide +kernel
theorem dX0_copyFrom_91 : decode cX0_copyFrom 91 = .ok (.getfield 35, 3) := by decide +kernel
theorem dX0_copyFrom_94 : decode cX0_copyFrom 94 = .ok (.iconst 0, 1) := by decide +kernel
theorem dX0_copyFrom_95 : decode cX0_copyFrom 95 = .ok (.aload_n 0, 1) := by decide +kernel
theorem dX0_copyFrom_96 : decode cX0_copyFrom 96 = .ok (.getfield 35, 3) := by decide +kernel
theorem dX0_copyFrom_99 : decode cX0_copyFrom 99 = .ok (.iconst 0, 1) := by decide +kernel
theorem dX0_copyFrom_100 : decode cX0_copyFrom 100 = .ok (.aload_n 0, 1) := by decide +kernel
theorem dX0_copyFrom_101 : decode cX0_copyFrom 101 = .ok (.getfield 35, 3) := by decide +kernel
theorem dX0_copyFrom_104 : decode cX0_copyFrom 104 = .ok (.arraylength, 1) := by decide +kernel
theorem dX0_copyFrom_105 : decode cX0_copyFrom 105 = .ok (.invokestatic 44, 3) := by decide +kernel
theorem dX0_copyFrom_108 : decode cX0_copyFrom 108 = .ok (.aload_n 1, 1) := by decide +kernel
theorem dX0_copyFrom_109 : decode cX0_copyFrom 109 = .ok (.getfield 38, 3) := by decide +kernel
theorem dX0_copyFrom_112 : decode cX0_copyFrom 112 = .ok (.iconst 0, 1) := by decide +kernel
theorem dX0_copyFrom_113 : decode cX0_copyFrom 113 = .ok (.aload_n 0, 1) := by decide +kernel
theorem dX0_copyFrom_114 : decode cX0_copyFrom 114 = .ok (.getfield 38, 3) := by decide +kernel
theorem dX0_copyFrom_117 : decode cX0_copyFrom 117 = .ok (.iconst 0, 1) := by decide +kernel
theorem dX0_copyFrom_118 : decode cX0_copyFrom 118 = .ok (.aload_n 0, 1) := by decide +kernel
theorem dX0_copyFrom_119 : decode cX0_copyFrom 119 = .ok (.getfield 38, 3) := by decide +kernel
theorem dX0_copyFrom_122 : decode cX0_copyFrom 122 = .ok (.arraylength, 1) := by decide +kernel
theorem dX0_copyFrom_123 : decode cX0_copyFrom 123 = .ok (.invokestatic 44, 3) := by decide +kernel
theorem dX0_copyFrom_126 : decode cX0_copyFrom 126 = .ok (.aload_n 1, 1) := by decide +kernel
theorem dX0_copyFrom_127 : decode cX0_copyFrom 127 = .ok (.getfield 41, 3) := by decide +kernel
theorem dX0_copyFrom_130 : decode cX0_copyFrom 130 = .ok (.iconst 0, 1) := by decide +kernel
theorem dX0_copyFrom_131 : decode cX0_copyFrom 131 = .ok (.aload_n 0, 1) := by decide +kernel
theorem dX0_copyFrom_132 : decode cX0_copyFrom 132 = .ok (.getfield 41, 3) := by decide +kernel
theorem dX0_copyFrom_135 : decode cX0_copyFrom 135 = .ok (.iconst 0, 1) := by decide +kernel
theorem dX0_copyFrom_136 : decode cX0_copyFrom 136 = .ok (.aload_n 0, 1) := by decide +kernel
theorem dX0_copyFrom_137 : decode cX0_copyFrom 137 = .ok (.getfield 41, 3) := by decide +kernel
theorem dX0_copyFrom_140 : decode cX0_copyFrom 140 = .ok (.arraylength, 1) := by decide +kernel
theorem dX0_copyFrom_141 : decode cX0_copyFrom 141 = .ok (.invokestatic 44, 3) := by decide +kernel
theorem dX0_copyFrom_144 : decode cX0_copyFrom 144 = .ok (.aload_n 0, 1) := by decide +kernel
theorem dX0_copyFrom_145 : decode cX0_copyFrom 145 = .ok (.aload_n 1, 1) := by decide +kernel
theorem dX0_copyFrom_146 : decode cX0_copyFrom 146 = .ok (.getfield 50, 3) := by decide +kernel
theorem dX0_copyFrom_149 : decode cX0_copyFrom 149 = .ok (.putfield 50, 3) := by decide +kernel
theorem dX0_copyFrom_152 : decode cX0_copyFrom 152 = .ok (.aload_n 0, 1) := by decide +kernel
theorem dX0_copyFrom_153 : decode cX0_copyFrom 153 = .ok (.aload_n 1, 1) := by decide +kernel
theorem dX0_copyFrom_154 : decode cX0_copyFrom 154 = .ok (.getfield 54, 3) := by decide +kernel
theorem dX0_copyFrom_157 : decode cX0_copyFrom 157 = .ok (.putfield 54, 3) := by decide +kernel
theorem dX0_copyFrom_160 : decode cX0_copyFrom 160 = .ok (.aload_n 0, 1) := by decide +kernel
theorem dX0_copyFrom_161 : decode cX0_copyFrom 161 = .ok (.aload_n 1, 1) := by decide +kernel
theorem dX0_copyFrom_162 : decode cX0_copyFrom 162 = .ok (.getfield 57, 3) := by decide +kernel
theorem dX0_copyFrom_165 : decode cX0_copyFrom 165 = .ok (.putfield 57, 3) := by decide +kernel
theorem dX0_copyFrom_168 : decode cX0_copyFrom 168 = .ok (.return_, 1) := by decide +kernel
theorem dX0_farAgo_0 : decode cX0_farAgo 0 = .ok (.aload_n 0, 1) := by decide +kernel
theorem dX0_farAgo_1 : decode cX0_farAgo 1 = .ok (.getfield 29, 3) := by decide +kernel
theorem dX0_farAgo_4 : decode cX0_farAgo 4 = .ok (.aload_n 0, 1) := by decide +kernel
theorem dX0_farAgo_5 : decode cX0_farAgo 5 = .ok (.getfield 50, 3) := by decide +kernel
theorem dX0_farAgo_8 : decode cX0_farAgo 8 = .ok (.iload_n 1, 1) := by decide +kernel
theorem dX0_farAgo_9 : decode cX0_farAgo 9 = .ok (.isub, 1) := by decide +kernel
theorem dX0_farAgo_10 : decode cX0_farAgo 10 = .ok (.bipush 63, 2) := by decide +kernel
theorem dX0_farAgo_12 : decode cX0_farAgo 12 = .ok (.iand, 1) := by decide +kernel
theorem dX0_farAgo_13 : decode cX0_farAgo 13 = .ok (.iaload, 1) := by decide +kernel
theorem dX0_farAgo_14 : decode cX0_farAgo 14 = .ok (.ireturn, 1) := by decide +kernel
theorem dX0_nearAgo_0 : decode cX0_nearAgo 0 = .ok (.aload_n 0, 1) := by decide +kernel
theorem dX0_nearAgo_1 : decode cX0_nearAgo 1 = .ok (.getfield 32, 3) := by decide +kernel
theorem dX0_nearAgo_4 : decode cX0_nearAgo 4 = .ok (.aload_n 0, 1) := by decide +kernel
theorem dX0_nearAgo_5 : decode cX0_nearAgo 5 = .ok (.getfield 50, 3) := by decide +kernel
theorem dX0_nearAgo_8 : decode cX0_nearAgo 8 = .ok (.iload_n 1, 1) := by decide +kernel
theorem dX0_nearAgo_9 : decode cX0_nearAgo 9 = .ok (.isub, 1) := by decide +kernel
theorem dX0_nearAgo_10 : decode cX0_nearAgo 10 = .ok (.bipush 63, 2) := by decide +kernel
theorem dX0_nearAgo_12 : decode cX0_nearAgo 12 = .ok (.iand, 1) := by decide +kernel
theorem dX0_nearAgo_13 : decode cX0_nearAgo 13 = .ok (.iaload, 1) := by decide +kernel
theorem dX0_nearAgo_14 : decode cX0_nearAgo 14 = .ok (.ireturn, 1) := by decide +kernel
theorem dX0_outAgo_0 : decode cX0_outAgo 0 = .ok (.aload_n 0, 1) := by decide +kernel
theorem dX0_outAgo_1 : decode cX0_outAgo 1 = .ok (.getfield 35, 3) := by decide +kernel
theorem dX0_outAgo_4 : decode cX0_outAgo 4 = .ok (.aload_n 0, 1) := by decide +kernel
theorem dX0_outAgo_5 : decode cX0_outAgo 5 = .ok (.getfield 50, 3) := by decide +kernel
theorem dX0_outAgo_8 : decode cX0_outAgo 8 = .ok (.iload_n 1, 1) := by decide +kernel
theorem dX0_outAgo_9 : decode cX0_outAgo 9 = .ok (.isub, 1) := by decide +kernel
theorem dX0_outAgo_10 : decode cX0_outAgo 10 = .ok (.bipush 63, 2) := by decide +kernel
theorem dX0_outAgo_12 : decode cX0_outAgo 12 = .ok (.iand, 1) := by decide +kernel
theorem dX0_outAgo_13 : decode cX0_outAgo 13 = .ok (.iaload, 1) := by decide +kernel
theorem dX0_outAgo_14 : decode cX0_outAgo 14 = .ok (.ireturn, 1) := by decide +kernel
theorem dX0_takeFar_0 : decode cX0_takeFar 0 = .ok (.aload_n 0, 1) := by decide +kernel
theorem dX0_takeFar_1 : decode cX0_takeFar 1 = .ok (.dup, 1) := by decide +kernel
theorem dX0_takeFar_2 : decode cX0_takeFar 2 = .ok (.getfield 50, 3) := by decide +kernel
theorem dX0_takeFar_5 : decode cX0_takeFar 5 = .ok (.iconst 1, 1) := by decide +kernel
theorem dX0_takeFar_6 : decode cX0_takeFar 6 = .ok (.iadd, 1) := by decide +kernel
theorem dX0_takeFar_7 : decode cX0_takeFar 7 = .ok (.putfield 50, 3) := by decide +kernel
theorem dX0_takeFar_10 : decode cX0_takeFar 10 = .ok (.aload_n 0, 1) := by decide +kernel
theorem dX0_takeFar_11 : decode cX0_takeFar 11 = .ok (.getfield 29, 3) := by decide +kernel
theorem dX0_takeFar_14 : decode cX0_takeFar 14 = .ok (.aload_n 0, 1) := by decide +kernel
theorem dX0_takeFar_15 : decode cX0_takeFar 15 = .ok (.getfield 50, 3) := by decide +kernel
theorem dX0_takeFar_18 : decode cX0_takeFar 18 = .ok (.bipush 63, 2) := by decide +kernel
theorem dX0_takeFar_20 : decode cX0_takeFar 20 = .ok (.iand, 1) := by decide +kernel
theorem dX0_takeFar_21 : decode cX0_takeFar 21 = .ok (.iload_n 1, 1) := by decide +kernel
theorem dX0_takeFar_22 : decode cX0_takeFar 22 = .ok (.iastore, 1) := by decide +kernel
theorem dX0_takeFar_23 : decode cX0_takeFar 23 = .ok (.return_, 1) := by decide +kernel
set_option maxRecDepth 20000 in
theorem ggX0_takeNear_X0_estimated : GoodIn wsX0_takeNear wsX0_estimated := goodIn_r _ [15, 16, 17, 18, 19, 14, 20, 21, 22, 23, 24, 25, 26, 2, 83, 84, 85, 86, 87, 88, 89, 90, 91, 92, 93] (by decide +kernel) (by decide +kernel)
set_option maxRecDepth 20000 in
theorem gX0_takeNear_X0_estimated : GoodIn wsX0_takeNear (wsV RX0 60 RX0 yX0_estimated wsX0_estimated) := goodIn_app (goodIn_of _ (by decide +kernel)) ggX0_takeNear_X0_estimated
set_option maxRecDepth 20000 in
theorem ggX0_takeNear_X0_loudest : GoodIn wsX0_takeNear wsX0_loudest := goodIn_r _ [30, 3, 4, 5, 6, 31, 32, 33, 22, 23, 24, 14, 25, 26, 2, 83, 84, 85, 86, 87, 88, 89, 90, 91, 92, 93] (by decide +kernel) (by decide +kernel)
set_option maxRecDepth 20000 in
theorem gX0_takeNear_X0_loudest : GoodIn wsX0_takeNear (wsV RX0 64 RX0 yX0_loudest wsX0_loudest) := goodIn_app (goodIn_of _ (by decide +kernel)) ggX0_takeNear_X0_loudest
set_option maxRecDepth 20000 in
theorem ggX0_takeNear_X0_holdBy : GoodIn wsX0_takeNear wsX0_holdBy := goodIn_r _ [37, 21, 7, 83, 84, 85, 86, 87, 88, 89, 90, 91, 92, 93] (by decide +kernel) (by decide +kernel)
set_option maxRecDepth 20000 in
theorem gX0_takeNear_X0_holdBy : GoodIn wsX0_takeNear (wsV RX0 73 RX0 yX0_holdBy wsX0_holdBy) := goodIn_app (goodIn_of _ (by decide +kernel)) ggX0_takeNear_X0_holdBy
set_option maxRecDepth 20000 in
theorem ggX0_takeNear_X0_tonePeriod : GoodIn wsX0_takeNear wsX0_tonePeriod := goodIn_r _ [41, 42, 43, 44, 14, 45, 22, 23, 24, 25, 26, 2, 46, 47, 48, 49, 83, 84, 85, 86, 87, 88, 89, 90, 91, 92, 93] (by decide +kernel) (by decide +kernel)
set_option maxRecDepth 20000 in
theorem gX0_takeNear_X0_tonePeriod : GoodIn wsX0_takeNear (wsV RX0 77 RX0 yX0_tonePeriod wsX0_tonePeriod) := goodIn_app (goodIn_of _ (by decide +kernel)) ggX0_takeNear_X0_tonePeriod
set_option maxRecDepth 20000 in
theorem ggX0_takeNear_X0_powerSeen : GoodIn wsX0_takeNear wsX0_powerSeen := goodIn_r _ [53, 17, 18, 19, 14, 20, 21, 22, 23, 24, 25, 26, 2, 83, 84, 85, 86, 87, 88, 89, 90, 91, 92, 93] (by decide +kernel) (by decide +kernel)
set_option maxRecDepth 20000 in
theorem gX0_takeNear_X0_powerSeen : GoodIn wsX0_takeNear (wsV RX0 80 RX0 yX0_powerSeen wsX0_powerSeen) := goodIn_app (goodIn_of _ (by decide +kernel)) ggX0_takeNear_X0_powerSeen
set_option maxRecDepth 20000 in
theorem ggX0_takeNear_X0_learn : GoodIn wsX0_takeNear wsX0_learn := goodIn_r _ [57, 21, 16, 58, 59, 60, 61, 5, 62, 63, 64, 65, 17, 18, 19, 14, 20, 22, 23, 24, 25, 26, 2, 83, 84, 85, 86, 87, 88, 89, 90, 91, 92, 93] (by decide +kernel) (by decide +kernel)
set_option maxRecDepth 20000 in
theorem gX0_takeNear_X0_learn : GoodIn wsX0_takeNear (wsV RX0 83 RX0 yX0_learn wsX0_learn) := goodIn_app (goodIn_of _ (by decide +kernel)) ggX0_takeNear_X0_learn
set_option maxRecDepth 20000 in
theorem ggX0_takeNear_X0_softened : GoodIn wsX0_takeNear wsX0_softened := goodIn_r _ [69, 3, 4, 5, 6, 21, 70, 71, 72, 73, 74, 75, 76, 77, 32, 33, 78, 79, 80, 81, 82, 83, 84, 85, 86, 87, 88, 89, 90, 91, 92, 93] (by decide +kernel) (by decide +kernel)
set_option maxRecDepth 20000 in
theorem gX0_takeNear_X0_softened : GoodIn wsX0_takeNear (wsV RX0 87 RX0 yX0_softened wsX0_softened) := goodIn_app (goodIn_of _ (by decide +kernel)) ggX0_takeNear_X0_softened
theorem dX0_takeNear_0 : decode cX0_takeNear 0 = .ok (.aload_n 0, 1) := by decide +kernel
theorem dX0_takeNear_1 : decode cX0_takeNear 1 = .ok (.getfield 32, 3) := by decide +kernel
theorem dX0_takeNear_4 : decode cX0_takeNear 4 = .ok (.aload_n 0, 1) := by decide +kernel
theorem dX0_takeNear_5 : decode cX0_takeNear 5 = .ok (.getfield 50, 3) := by decide +kernel
theorem dX0_takeNear_8 : decode cX0_takeNear 8 = .ok (.bipush 63, 2) := by decide +kernel
theorem dX0_takeNear_10 : decode cX0_takeNear 10 = .ok (.iand, 1) := by decide +kernel
theorem dX0_takeNear_11 : decode cX0_takeNear 11 = .ok (.iload_n 1, 1) := by decide +kernel
theorem dX0_takeNear_12 : decode cX0_takeNear 12 = .ok (.iastore, 1) := by decide +kernel
theorem dX0_takeNear_13 : decode cX0_takeNear 13 = .ok (.aload_n 0, 1) := by decide +kernel
theorem dX0_takeNear_14 : decode cX0_takeNear 14 = .ok (.invokevirtual 60, 3) := by decide +kernel
theorem dX0_takeNear_17 : decode cX0_takeNear 17 = .ok (.istore_n 2, 1) := by decide +kernel
theorem dX0_takeNear_18 : decode cX0_takeNear 18 = .ok (.iload_n 1, 1) := by decide +kernel
theorem dX0_takeNear_19 : decode cX0_takeNear 19 = .ok (.iload_n 2, 1) := by decide +kernel
theorem dX0_takeNear_20 : decode cX0_takeNear 20 = .ok (.isub, 1) := by decide +kernel
theorem dX0_takeNear_21 : decode cX0_takeNear 21 = .ok (.istore_n 3, 1) := by decide +kernel
theorem dX0_takeNear_22 : decode cX0_takeNear 22 = .ok (.aload_n 0, 1) := by decide +kernel
theorem dX0_takeNear_23 : decode cX0_takeNear 23 = .ok (.invokevirtual 64, 3) := by decide +kernel
theorem dX0_takeNear_26 : decode cX0_takeNear 26 = .ok (.istore 4, 2) := by decide +kernel
theorem dX0_takeNear_28 : decode cX0_takeNear 28 = .ok (.iconst 2, 1) := by decide +kernel
theorem dX0_takeNear_29 : decode cX0_takeNear 29 = .ok (.iload_n 1, 1) := by decide +kernel
theorem dX0_takeNear_30 : decode cX0_takeNear 30 = .ok (.invokestatic 67, 3) := by decide +kernel
theorem dX0_takeNear_33 : decode cX0_takeNear 33 = .ok (.imul, 1) := by decide +kernel
theorem dX0_takeNear_34 : decode cX0_takeNear 34 = .ok (.iload 4, 2) := by decide +kernel
theorem dX0_takeNear_36 : decode cX0_takeNear 36 = .ok (.if_icmp .le 7, 3) := by decide +kernel
theorem dX0_takeNear_39 : decode cX0_takeNear 39 = .ok (.iconst 1, 1) := by decide +kernel
theorem dX0_takeNear_40 : decode cX0_takeNear 40 = .ok (.goto 4, 3) := by decide +kernel
theorem dX0_takeNear_43 : decode cX0_takeNear 43 = .ok (.iconst 0, 1) := by decide +kernel
theorem dX0_takeNear_44 : decode cX0_takeNear 44 = .ok (.istore 5, 2) := by decide +kernel
theorem dX0_takeNear_46 : decode cX0_takeNear 46 = .ok (.aload_n 0, 1) := by decide +kernel
theorem dX0_takeNear_47 : decode cX0_takeNear 47 = .ok (.iload 5, 2) := by decide +kernel
theorem dX0_takeNear_49 : decode cX0_takeNear 49 = .ok (.invokevirtual 73, 3) := by decide +kernel
theorem dX0_takeNear_52 : decode cX0_takeNear 52 = .ok (.aload_n 0, 1) := by decide +kernel
theorem dX0_takeNear_53 : decode cX0_takeNear 53 = .ok (.invokevirtual 77, 3) := by decide +kernel
theorem dX0_takeNear_56 : decode cX0_takeNear 56 = .ok (.istore 6, 2) := by decide +kernel
theorem dX0_takeNear_58 : decode cX0_takeNear 58 = .ok (.aload_n 0, 1) := by decide +kernel
theorem dX0_takeNear_59 : decode cX0_takeNear 59 = .ok (.invokevirtual 80, 3) := by decide +kernel
theorem dX0_takeNear_62 : decode cX0_takeNear 62 = .ok (.istore 7, 2) := by decide +kernel
theorem dX0_takeNear_64 : decode cX0_takeNear 64 = .ok (.aload_n 0, 1) := by decide +kernel
theorem dX0_takeNear_65 : decode cX0_takeNear 65 = .ok (.getfield 54, 3) := by decide +kernel
theorem dX0_takeNear_68 : decode cX0_takeNear 68 = .ok (.ifCond .ne 17, 3) := by decide +kernel
theorem dX0_takeNear_71 : decode cX0_takeNear 71 = .ok (.iload 6, 2) := by decide +kernel
theorem dX0_takeNear_73 : decode cX0_takeNear 73 = .ok (.ifCond .ne 12, 3) := by decide +kernel
theorem dX0_takeNear_76 : decode cX0_takeNear 76 = .ok (.iload 7, 2) := by decide +kernel
theorem dX0_takeNear_78 : decode cX0_takeNear 78 = .ok (.ifCond .le 7, 3) := by decide +kernel
theorem dX0_takeNear_81 : decode cX0_takeNear 81 = .ok (.iconst 1, 1) := by decide +kernel
theorem dX0_takeNear_82 : decode cX0_takeNear 82 = .ok (.goto 4, 3) := by decide +kernel
theorem dX0_takeNear_85 : decode cX0_takeNear 85 = .ok (.iconst 0, 1) := by decide +kernel
theorem dX0_takeNear_86 : decode cX0_takeNear 86 = .ok (.istore 8, 2) := by decide +kernel
theorem dX0_takeNear_88 : decode cX0_takeNear 88 = .ok (.iload 8, 2) := by decide +kernel
theorem dX0_takeNear_90 : decode cX0_takeNear 90 = .ok (.ifCond .eq 10, 3) := by decide +kernel
theorem dX0_takeNear_93 : decode cX0_takeNear 93 = .ok (.aload_n 0, 1) := by decide +kernel
theorem dX0_takeNear_94 : decode cX0_takeNear 94 = .ok (.iload_n 3, 1) := by decide +kernel
theorem dX0_takeNear_95 : decode cX0_takeNear 95 = .ok (.iload 7, 2) := by decide +kernel
theorem dX0_takeNear_97 : decode cX0_takeNear 97 = .ok (.invokevirtual 83, 3) := by decide +kernel
theorem dX0_takeNear_100 : decode cX0_takeNear 100 = .ok (.iload 6, 2) := by decide +kernel
theorem dX0_takeNear_102 : decode cX0_takeNear 102 = .ok (.ifCond .le 7, 3) := by decide +kernel
theorem dX0_takeNear_105 : decode cX0_takeNear 105 = .ok (.iload_n 1, 1) := by decide +kernel
theorem dX0_takeNear_106 : decode cX0_takeNear 106 = .ok (.goto 8, 3) := by decide +kernel
theorem dX0_takeNear_109 : decode cX0_takeNear 109 = .ok (.aload_n 0, 1) := by decide +kernel
theorem dX0_takeNear_110 : decode cX0_takeNear 110 = .ok (.iload_n 3, 1) := by decide +kernel
theorem dX0_takeNear_111 : decode cX0_takeNear 111 = .ok (.invokevirtual 87, 3) := by decide +kernel
theorem dX0_takeNear_114 : decode cX0_takeNear 114 = .ok (.istore 9, 2) := by decide +kernel
theorem dX0_takeNear_116 : decode cX0_takeNear 116 = .ok (.aload_n 0, 1) := by decide +kernel
theorem dX0_takeNear_117 : decode cX0_takeNear 117 = .ok (.getfield 35, 3) := by decide +kernel
theorem dX0_takeNear_120 : decode cX0_takeNear 120 = .ok (.aload_n 0, 1) := by decide +kernel
theorem dX0_takeNear_121 : decode cX0_takeNear 121 = .ok (.getfield 50, 3) := by decide +kernel
theorem dX0_takeNear_124 : decode cX0_takeNear 124 = .ok (.bipush 63, 2) := by decide +kernel
theorem dX0_takeNear_126 : decode cX0_takeNear 126 = .ok (.iand, 1) := by decide +kernel
theorem dX0_takeNear_127 : decode cX0_takeNear 127 = .ok (.iload 9, 2) := by decide +kernel
theorem dX0_takeNear_129 : decode cX0_takeNear 129 = .ok (.iastore, 1) := by decide +kernel
theorem dX0_takeNear_130 : decode cX0_takeNear 130 = .ok (.aload_n 0, 1) := by decide +kernel
theorem dX0_takeNear_131 : decode cX0_takeNear 131 = .ok (.getfield 38, 3) := by decide +kernel
theorem dX0_takeNear_134 : decode cX0_takeNear 134 = .ok (.aload_n 0, 1) := by decide +kernel
theorem dX0_takeNear_135 : decode cX0_takeNear 135 = .ok (.getfield 50, 3) := by decide +kernel
theorem dX0_takeNear_138 : decode cX0_takeNear 138 = .ok (.sipush 255, 3) := by decide +kernel
theorem dX0_takeNear_141 : decode cX0_takeNear 141 = .ok (.iand, 1) := by decide +kernel
theorem dX0_takeNear_142 : decode cX0_takeNear 142 = .ok (.iload 5, 2) := by decide +kernel
theorem dX0_takeNear_144 : decode cX0_takeNear 144 = .ok (.ifCond .eq 7, 3) := by decide +kernel
theorem dX0_takeNear_147 : decode cX0_takeNear 147 = .ok (.iconst 1, 1) := by decide +kernel
theorem dX0_takeNear_148 : decode cX0_takeNear 148 = .ok (.goto 4, 3) := by decide +kernel
theorem dX0_takeNear_151 : decode cX0_takeNear 151 = .ok (.iconst 0, 1) := by decide +kernel
theorem dX0_takeNear_152 : decode cX0_takeNear 152 = .ok (.iload 6, 2) := by decide +kernel
theorem dX0_takeNear_154 : decode cX0_takeNear 154 = .ok (.ifCond .le 7, 3) := by decide +kernel
theorem dX0_takeNear_157 : decode cX0_takeNear 157 = .ok (.iconst 2, 1) := by decide +kernel
theorem dX0_takeNear_158 : decode cX0_takeNear 158 = .ok (.goto 4, 3) := by decide +kernel
theorem dX0_takeNear_161 : decode cX0_takeNear 161 = .ok (.iconst 0, 1) := by decide +kernel
theorem dX0_takeNear_162 : decode cX0_takeNear 162 = .ok (.ior, 1) := by decide +kernel
theorem dX0_takeNear_163 : decode cX0_takeNear 163 = .ok (.iastore, 1) := by decide +kernel
theorem dX0_takeNear_164 : decode cX0_takeNear 164 = .ok (.aload_n 0, 1) := by decide +kernel
theorem dX0_takeNear_165 : decode cX0_takeNear 165 = .ok (.getfield 41, 3) := by decide +kernel
theorem dX0_takeNear_168 : decode cX0_takeNear 168 = .ok (.iconst 0, 1) := by decide +kernel
theorem dX0_takeNear_169 : decode cX0_takeNear 169 = .ok (.iload_n 2, 1) := by decide +kernel
theorem dX0_takeNear_170 : decode cX0_takeNear 170 = .ok (.iastore, 1) := by decide +kernel
theorem dX0_takeNear_171 : decode cX0_takeNear 171 = .ok (.aload_n 0, 1) := by decide +kernel
theorem dX0_takeNear_172 : decode cX0_takeNear 172 = .ok (.getfield 41, 3) := by decide +kernel
theorem dX0_takeNear_175 : decode cX0_takeNear 175 = .ok (.iconst 1, 1) := by decide +kernel
theorem dX0_takeNear_176 : decode cX0_takeNear 176 = .ok (.iload_n 3, 1) := by decide +kernel
theorem dX0_takeNear_177 : decode cX0_takeNear 177 = .ok (.iastore, 1) := by decide +kernel
theorem dX0_takeNear_178 : decode cX0_takeNear 178 = .ok (.aload_n 0, 1) := by decide +kernel
theorem dX0_takeNear_179 : decode cX0_takeNear 179 = .ok (.getfield 41, 3) := by decide +kernel
theorem dX0_takeNear_182 : decode cX0_takeNear 182 = .ok (.iconst 2, 1) := by decide +kernel
theorem dX0_takeNear_183 : decode cX0_takeNear 183 = .ok (.iload 9, 2) := by decide +kernel
theorem dX0_takeNear_185 : decode cX0_takeNear 185 = .ok (.iastore, 1) := by decide +kernel
theorem dX0_takeNear_186 : decode cX0_takeNear 186 = .ok (.aload_n 0, 1) := by decide +kernel
theorem dX0_takeNear_187 : decode cX0_takeNear 187 = .ok (.getfield 41, 3) := by decide +kernel
theorem dX0_takeNear_190 : decode cX0_takeNear 190 = .ok (.iconst 3, 1) := by decide +kernel
theorem dX0_takeNear_191 : decode cX0_takeNear 191 = .ok (.iload 4, 2) := by decide +kernel
theorem dX0_takeNear_193 : decode cX0_takeNear 193 = .ok (.iastore, 1) := by decide +kernel
theorem dX0_takeNear_194 : decode cX0_takeNear 194 = .ok (.aload_n 0, 1) := by decide +kernel
theorem dX0_takeNear_195 : decode cX0_takeNear 195 = .ok (.getfield 41, 3) := by decide +kernel
theorem dX0_takeNear_198 : decode cX0_takeNear 198 = .ok (.iconst 4, 1) := by decide +kernel
theorem dX0_takeNear_199 : decode cX0_takeNear 199 = .ok (.iload 7, 2) := by decide +kernel
theorem dX0_takeNear_201 : decode cX0_takeNear 201 = .ok (.iastore, 1) := by decide +kernel
theorem dX0_takeNear_202 : decode cX0_takeNear 202 = .ok (.aload_n 0, 1) := by decide +kernel
theorem dX0_takeNear_203 : decode cX0_takeNear 203 = .ok (.getfield 41, 3) := by decide +kernel
theorem dX0_takeNear_206 : decode cX0_takeNear 206 = .ok (.iconst 5, 1) := by decide +kernel
theorem dX0_takeNear_207 : decode cX0_takeNear 207 = .ok (.iload 5, 2) := by decide +kernel
theorem dX0_takeNear_209 : decode cX0_takeNear 209 = .ok (.ifCond .eq 7, 3) := by decide +kernel
theorem dX0_takeNear_212 : decode cX0_takeNear 212 = .ok (.iconst 1, 1) := by decide +kernel
theorem dX0_takeNear_213 : decode cX0_takeNear 213 = .ok (.goto 4, 3) := by decide +kernel
theorem dX0_takeNear_216 : decode cX0_takeNear 216 = .ok (.iconst 0, 1) := by decide +kernel
theorem dX0_takeNear_217 : decode cX0_takeNear 217 = .ok (.iastore, 1) := by decide +kernel
theorem dX0_takeNear_218 : decode cX0_takeNear 218 = .ok (.aload_n 0, 1) := by decide +kernel
theorem dX0_takeNear_219 : decode cX0_takeNear 219 = .ok (.getfield 41, 3) := by decide +kernel
theorem dX0_takeNear_222 : decode cX0_takeNear 222 = .ok (.bipush 6, 2) := by decide +kernel
theorem dX0_takeNear_224 : decode cX0_takeNear 224 = .ok (.iload 6, 2) := by decide +kernel
theorem dX0_takeNear_226 : decode cX0_takeNear 226 = .ok (.iastore, 1) := by decide +kernel
theorem dX0_takeNear_227 : decode cX0_takeNear 227 = .ok (.aload_n 0, 1) := by decide +kernel
theorem dX0_takeNear_228 : decode cX0_takeNear 228 = .ok (.getfield 41, 3) := by decide +kernel
theorem dX0_takeNear_231 : decode cX0_takeNear 231 = .ok (.bipush 7, 2) := by decide +kernel
theorem dX0_takeNear_233 : decode cX0_takeNear 233 = .ok (.iload 8, 2) := by decide +kernel
theorem dX0_takeNear_235 : decode cX0_takeNear 235 = .ok (.ifCond .eq 7, 3) := by decide +kernel
theorem dX0_takeNear_238 : decode cX0_takeNear 238 = .ok (.iconst 1, 1) := by decide +kernel
theorem dX0_takeNear_239 : decode cX0_takeNear 239 = .ok (.goto 4, 3) := by decide +kernel
theorem dX0_takeNear_242 : decode cX0_takeNear 242 = .ok (.iconst 0, 1) := by decide +kernel
theorem dX0_takeNear_243 : decode cX0_takeNear 243 = .ok (.iastore, 1) := by decide +kernel
theorem dX0_takeNear_244 : decode cX0_takeNear 244 = .ok (.iload 9, 2) := by decide +kernel
theorem dX0_takeNear_246 : decode cX0_takeNear 246 = .ok (.ireturn, 1) := by decide +kernel
set_option maxRecDepth 20000 in
theorem ggX0_hearSpeech_X0_takeFar : GoodIn wsX0_hearSpeech wsX0_takeFar := goodIn_r _ [5, 6, 7, 96, 97, 98, 99, 100, 101, 102, 103, 104, 105, 106] (by decide +kernel) (by decide +kernel)
set_option maxRecDepth 20000 in
theorem gX0_hearSpeech_X0_takeFar : GoodIn wsX0_hearSpeech (wsV RX0 90 RX0 yX0_takeFar wsX0_takeFar) := goodIn_app (goodIn_of _ (by decide +kernel)) ggX0_hearSpeech_X0_takeFar
set_option maxRecDepth 20000 in
theorem ggX0_hearSpeech_X0_echo : GoodIn wsX0_hearSpeech wsX0_echo := goodIn_r _ [11, 12, 13, 14, 15, 4, 16, 7, 6, 96, 97, 98, 99, 100, 101, 102, 103, 104, 105, 106] (by decide +kernel) (by decide +kernel)
set_option maxRecDepth 20000 in
theorem gX0_hearSpeech_X0_echo : GoodIn wsX0_hearSpeech (wsV RX0 94 RX0 yX0_echo wsX0_echo) := goodIn_app (goodIn_of _ (by decide +kernel)) ggX0_hearSpeech_X0_echo
set_option maxRecDepth 20000 in
theorem ggX0_hearSpeech_X1_limited : GoodIn wsX0_hearSpeech wsX1_limited := goodIn_r _ [19, 20, 21, 22, 23, 24, 25, 26] (by decide +kernel) (by decide +kernel)
set_option maxRecDepth 20000 in
theorem gX0_hearSpeech_X1_limited_n97 : GoodIn wsX0_hearSpeech (wsX1_limited) := ggX0_hearSpeech_X1_limited
set_option maxRecDepth 20000 in
theorem ggX0_hearSpeech_X0_takeNear : GoodIn wsX0_hearSpeech wsX0_takeNear := goodIn_r _ [30, 31, 6, 32, 33, 22, 34, 35, 36, 37, 38, 39, 40, 41, 4, 42, 43, 44, 45, 46, 47, 48, 13, 14, 15, 16, 7, 49, 50, 51, 52, 53, 25, 26, 54, 55, 56, 57, 58, 59, 60, 61, 62, 63, 64, 65, 66, 67, 68, 69, 70, 71, 72, 73, 74, 75, 76, 77, 78, 79, 80, 81, 82, 83, 84, 85, 86, 87, 88, 89, 90, 17, 18, 19, 20, 21, 23, 24, 91, 92, 93, 94, 95, 96, 97, 98, 99, 100, 101, 102, 103, 104, 105, 106] (by decide +kernel) (by decide +kernel)
set_option maxRecDepth 20000 in
theorem gX0_hearSpeech_X0_takeNear : GoodIn wsX0_hearSpeech (wsV RX0 101 RX0 yX0_takeNear wsX0_takeNear) := goodIn_app (goodIn_of _ (by decide +kernel)) ggX0_hearSpeech_X0_takeNear
theorem dX0_hearSpeech_0 : decode cX0_hearSpeech 0 = .ok (.aload_n 0, 1) := by decide +kernel
theorem dX0_hearSpeech_1 : decode cX0_hearSpeech 1 = .ok (.iload_n 1, 1) := by decide +kernel
theorem dX0_hearSpeech_2 : decode cX0_hearSpeech 2 = .ok (.invokevirtual 90, 3) := by decide +kernel
theorem dX0_hearSpeech_5 : decode cX0_hearSpeech 5 = .ok (.aload_n 0, 1) := by decide +kernel
theorem dX0_hearSpeech_6 : decode cX0_hearSpeech 6 = .ok (.aload_n 0, 1) := by decide +kernel
theorem dX0_hearSpeech_7 : decode cX0_hearSpeech 7 = .ok (.invokevirtual 94, 3) := by decide +kernel
theorem dX0_hearSpeech_10 : decode cX0_hearSpeech 10 = .ok (.iload_n 2, 1) := by decide +kernel
theorem dX0_hearSpeech_11 : decode cX0_hearSpeech 11 = .ok (.iadd, 1) := by decide +kernel
theorem dX0_hearSpeech_12 : decode cX0_hearSpeech 12 = .ok (.sipush (-2000), 3) := by decide +kernel
theorem dX0_hearSpeech_15 : decode cX0_hearSpeech 15 = .ok (.sipush 2000, 3) := by decide +kernel
theorem dX0_hearSpeech_18 : decode cX0_hearSpeech 18 = .ok (.invokestatic 97, 3) := by decide +kernel
theorem dX0_hearSpeech_21 : decode cX0_hearSpeech 21 = .ok (.invokevirtual 101, 3) := by decide +kernel
theorem dX0_hearSpeech_24 : decode cX0_hearSpeech 24 = .ok (.ireturn, 1) := by decide +kernel
set_option maxRecDepth 20000 in
theorem ggX0_echo_X0_farAgo : GoodIn wsX0_echo wsX0_farAgo := goodIn_r _ [6, 7, 8, 9, 10, 11, 12, 13, 14, 15, 16, 17, 18, 19] (by decide +kernel) (by decide +kernel)
set_option maxRecDepth 20000 in
theorem gX0_echo_X0_farAgo : GoodIn wsX0_echo (wsV RX0 104 RX0 yX0_farAgo wsX0_farAgo) := goodIn_app (goodIn_of _ (by decide +kernel)) ggX0_echo_X0_farAgo
theorem dX0_echo_0 : decode cX0_echo 0 = .ok (.iconst 0, 1) := by decide +kernel
theorem dX0_echo_1 : decode cX0_echo 1 = .ok (.istore_n 1, 1) := by decide +kernel
theorem dX0_echo_2 : decode cX0_echo 2 = .ok (.iconst 0, 1) := by decide +kernel
theorem dX0_echo_3 : decode cX0_echo 3 = .ok (.istore_n 2, 1) := by decide +kernel
theorem dX0_echo_4 : decode cX0_echo 4 = .ok (.iload_n 2, 1) := by decide +kernel
theorem dX0_echo_5 : decode cX0_echo 5 = .ok (.bipush 8, 2) := by decide +kernel
theorem dX0_echo_7 : decode cX0_echo 7 = .ok (.if_icmp .ge 32, 3) := by decide +kernel
theorem dX0_echo_10 : decode cX0_echo 10 = .ok (.iload_n 1, 1) := by decide +kernel
theorem dX0_echo_11 : decode cX0_echo 11 = .ok (.aload_n 0, 1) := by decide +kernel
theorem dX0_echo_12 : decode cX0_echo 12 = .ok (.getfield 26, 3) := by decide +kernel
theorem dX0_echo_15 : decode cX0_echo 15 = .ok (.iload_n 2, 1) := by decide +kernel
theorem dX0_echo_16 : decode cX0_echo 16 = .ok (.iaload, 1) := by decide +kernel
theorem dX0_echo_17 : decode cX0_echo 17 = .ok (.aload_n 0, 1) := by decide +kernel
theorem dX0_echo_18 : decode cX0_echo 18 = .ok (.iload_n 2, 1) := by decide +kernel
theorem dX0_echo_19 : decode cX0_echo 19 = .ok (.aload_n 0, 1) := by decide +kernel
theorem dX0_echo_20 : decode cX0_echo 20 = .ok (.getfield 26, 3) := by decide +kernel
theorem dX0_echo_23 : decode cX0_echo 23 = .ok (.bipush 8, 2) := by decide +kernel
theorem dX0_echo_25 : decode cX0_echo 25 = .ok (.iaload, 1) := by decide +kernel
theorem dX0_echo_26 : decode cX0_echo 26 = .ok (.iadd, 1) := by decide +kernel
theorem dX0_echo_27 : decode cX0_echo 27 = .ok (.invokevirtual 104, 3) := by decide +kernel
theorem dX0_echo_30 : decode cX0_echo 30 = .ok (.imul, 1) := by decide +kernel
theorem dX0_echo_31 : decode cX0_echo 31 = .ok (.iadd, 1) := by decide +kernel
theorem dX0_echo_32 : decode cX0_echo 32 = .ok (.istore_n 1, 1) := by decide +kernel
theorem dX0_echo_33 : decode cX0_echo 33 = .ok (.iinc 2 1, 3) := by decide +kernel
theorem dX0_echo_36 : decode cX0_echo 36 = .ok (.goto (-32), 3) := by decide +kernel
theorem dX0_echo_39 : decode cX0_echo 39 = .ok (.iload_n 1, 1) := by decide +kernel
theorem dX0_echo_40 : decode cX0_echo 40 = .ok (.sipush 1024, 3) := by decide +kernel
theorem dX0_echo_43 : decode cX0_echo 43 = .ok (.idiv, 1) := by decide +kernel
theorem dX0_echo_44 : decode cX0_echo 44 = .ok (.ireturn, 1) := by decide +kernel
set_option maxRecDepth 20000 in
theorem ggX0_seenBy_X0_farAgo : GoodIn wsX0_seenBy wsX0_farAgo := goodIn_r _ [6, 7, 8, 9, 10, 11, 12, 13, 14, 15, 16, 17, 18, 19] (by decide +kernel) (by decide +kernel)
set_option maxRecDepth 20000 in
theorem gX0_seenBy_X0_farAgo : GoodIn wsX0_seenBy (wsV RX0 104 RX0 yX0_farAgo wsX0_farAgo) := goodIn_app (goodIn_of _ (by decide +kernel)) ggX0_seenBy_X0_farAgo
theorem dX0_seenBy_0 : decode cX0_seenBy 0 = .ok (.aload_n 0, 1) := by decide +kernel
theorem dX0_seenBy_1 : decode cX0_seenBy 1 = .ok (.iload_n 1, 1) := by decide +kernel
theorem dX0_seenBy_2 : decode cX0_seenBy 2 = .ok (.aload_n 0, 1) := by decide +kernel
theorem dX0_seenBy_3 : decode cX0_seenBy 3 = .ok (.getfield 18, 3) := by decide +kernel
theorem dX0_seenBy_6 : decode cX0_seenBy 6 = .ok (.iconst 4, 1) := by decide +kernel
theorem dX0_seenBy_7 : decode cX0_seenBy 7 = .ok (.iaload, 1) := by decide +kernel
theorem dX0_seenBy_8 : decode cX0_seenBy 8 = .ok (.iadd, 1) := by decide +kernel
theorem dX0_seenBy_9 : decode cX0_seenBy 9 = .ok (.invokevirtual 104, 3) := by decide +kernel
theorem dX0_seenBy_12 : decode cX0_seenBy 12 = .ok (.ireturn, 1) := by decide +kernel
set_option maxRecDepth 20000 in
theorem ggX0_estimated_X0_seenBy : GoodIn wsX0_estimated wsX0_seenBy := goodIn_r _ [6, 7, 8, 9, 10, 5, 11, 12, 13, 14, 15, 16, 17, 18, 19, 20, 21, 22, 23, 24] (by decide +kernel) (by decide +kernel)
set_option maxRecDepth 20000 in
theorem gX0_estimated_X0_seenBy : GoodIn wsX0_estimated (wsV RX0 107 RX0 yX0_seenBy wsX0_seenBy) := goodIn_app (goodIn_of _ (by decide +kernel)) ggX0_estimated_X0_seenBy
theorem dX0_estimated_0 : decode cX0_estimated 0 = .ok (.iconst 0, 1) := by decide +kernel
theorem dX0_estimated_1 : decode cX0_estimated 1 = .ok (.istore_n 1, 1) := by decide +kernel
theorem dX0_estimated_2 : decode cX0_estimated 2 = .ok (.iconst 0, 1) := by decide +kernel
theorem dX0_estimated_3 : decode cX0_estimated 3 = .ok (.istore_n 2, 1) := by decide +kernel
theorem dX0_estimated_4 : decode cX0_estimated 4 = .ok (.iload_n 2, 1) := by decide +kernel
theorem dX0_estimated_5 : decode cX0_estimated 5 = .ok (.bipush 8, 2) := by decide +kernel
theorem dX0_estimated_7 : decode cX0_estimated 7 = .ok (.if_icmp .ge 24, 3) := by decide +kernel
theorem dX0_estimated_10 : decode cX0_estimated 10 = .ok (.iload_n 1, 1) := by decide +kernel
theorem dX0_estimated_11 : decode cX0_estimated 11 = .ok (.aload_n 0, 1) := by decide +kernel
theorem dX0_estimated_12 : decode cX0_estimated 12 = .ok (.getfield 23, 3) := by decide +kernel
theorem dX0_estimated_15 : decode cX0_estimated 15 = .ok (.iload_n 2, 1) := by decide +kernel
theorem dX0_estimated_16 : decode cX0_estimated 16 = .ok (.iaload, 1) := by decide +kernel
theorem dX0_estimated_17 : decode cX0_estimated 17 = .ok (.aload_n 0, 1) := by decide +kernel
theorem dX0_estimated_18 : decode cX0_estimated 18 = .ok (.iload_n 2, 1) := by decide +kernel
theorem dX0_estimated_19 : decode cX0_estimated 19 = .ok (.invokevirtual 107, 3) := by decide +kernel
theorem dX0_estimated_22 : decode cX0_estimated 22 = .ok (.imul, 1) := by decide +kernel
theorem dX0_estimated_23 : decode cX0_estimated 23 = .ok (.iadd, 1) := by decide +kernel
theorem dX0_estimated_24 : decode cX0_estimated 24 = .ok (.istore_n 1, 1) := by decide +kernel
theorem dX0_estimated_25 : decode cX0_estimated 25 = .ok (.iinc 2 1, 3) := by decide +kernel
theorem dX0_estimated_28 : decode cX0_estimated 28 = .ok (.goto (-24), 3) := by decide +kernel
theorem dX0_estimated_31 : decode cX0_estimated 31 = .ok (.iload_n 1, 1) := by decide +kernel
theorem dX0_estimated_32 : decode cX0_estimated 32 = .ok (.sipush 1024, 3) := by decide +kernel
theorem dX0_estimated_35 : decode cX0_estimated 35 = .ok (.idiv, 1) := by decide +kernel
theorem dX0_estimated_36 : decode cX0_estimated 36 = .ok (.ireturn, 1) := by decide +kernel
set_option maxRecDepth 20000 in
theorem ggX0_loudest_X0_farAgo : GoodIn wsX0_loudest wsX0_farAgo := goodIn_r _ [12, 13, 14, 15, 16, 17, 18, 19, 20, 21, 22, 23, 24, 25] (by decide +kernel) (by decide +kernel)
set_option maxRecDepth 20000 in
theorem gX0_loudest_X0_farAgo : GoodIn wsX0_loudest (wsV RX0 104 RX0 yX0_farAgo wsX0_farAgo) := goodIn_app (goodIn_of _ (by decide +kernel)) ggX0_loudest_X0_farAgo
theorem dX0_loudest_0 : decode cX0_loudest 0 = .ok (.iconst 0, 1) := by decide +kernel
theorem dX0_loudest_1 : decode cX0_loudest 1 = .ok (.istore_n 1, 1) := by decide +kernel
theorem dX0_loudest_2 : decode cX0_loudest 2 = .ok (.iconst 0, 1) := by decide +kernel
theorem dX0_loudest_3 : decode cX0_loudest 3 = .ok (.istore_n 2, 1) := by decide +kernel
theorem dX0_loudest_4 : decode cX0_loudest 4 = .ok (.iload_n 2, 1) := by decide +kernel
theorem dX0_loudest_5 : decode cX0_loudest 5 = .ok (.bipush 24, 2) := by decide +kernel
theorem dX0_loudest_7 : decode cX0_loudest 7 = .ok (.if_icmp .ge 22, 3) := by decide +kernel
theorem dX0_loudest_10 : decode cX0_loudest 10 = .ok (.iload_n 1, 1) := by decide +kernel
theorem dX0_loudest_11 : decode cX0_loudest 11 = .ok (.aload_n 0, 1) := by decide +kernel
theorem dX0_loudest_12 : decode cX0_loudest 12 = .ok (.iload_n 2, 1) := by decide +kernel
theorem dX0_loudest_13 : decode cX0_loudest 13 = .ok (.invokevirtual 104, 3) := by decide +kernel
theorem dX0_loudest_16 : decode cX0_loudest 16 = .ok (.invokestatic 67, 3) := by decide +kernel
theorem dX0_loudest_19 : decode cX0_loudest 19 = .ok (.invokestatic 110, 3) := by decide +kernel
theorem dX0_loudest_22 : decode cX0_loudest 22 = .ok (.istore_n 1, 1) := by decide +kernel
theorem dX0_loudest_23 : decode cX0_loudest 23 = .ok (.iinc 2 1, 3) := by decide +kernel
theorem dX0_loudest_26 : decode cX0_loudest 26 = .ok (.goto (-22), 3) := by decide +kernel
theorem dX0_loudest_29 : decode cX0_loudest 29 = .ok (.iload_n 1, 1) := by decide +kernel
theorem dX0_loudest_30 : decode cX0_loudest 30 = .ok (.ireturn, 1) := by decide +kernel
theorem dX0_holdBy_0 : decode cX0_holdBy 0 = .ok (.iload_n 1, 1) := by decide +kernel
theorem dX0_holdBy_1 : decode cX0_holdBy 1 = .ok (.ifCond .eq 16, 3) := by decide +kernel
theorem dX0_holdBy_4 : decode cX0_holdBy 4 = .ok (.aload_n 0, 1) := by decide +kernel
theorem dX0_holdBy_5 : decode cX0_holdBy 5 = .ok (.aload_n 0, 1) := by decide +kernel
theorem dX0_holdBy_6 : decode cX0_holdBy 6 = .ok (.getfield 18, 3) := by decide +kernel
theorem dX0_holdBy_9 : decode cX0_holdBy 9 = .ok (.iconst 1, 1) := by decide +kernel
theorem dX0_holdBy_10 : decode cX0_holdBy 10 = .ok (.iaload, 1) := by decide +kernel
theorem dX0_holdBy_11 : decode cX0_holdBy 11 = .ok (.putfield 54, 3) := by decide +kernel
theorem dX0_holdBy_14 : decode cX0_holdBy 14 = .ok (.goto 20, 3) := by decide +kernel
theorem dX0_holdBy_17 : decode cX0_holdBy 17 = .ok (.aload_n 0, 1) := by decide +kernel
theorem dX0_holdBy_18 : decode cX0_holdBy 18 = .ok (.getfield 54, 3) := by decide +kernel
theorem dX0_holdBy_21 : decode cX0_holdBy 21 = .ok (.ifCond .le 13, 3) := by decide +kernel
theorem dX0_holdBy_24 : decode cX0_holdBy 24 = .ok (.aload_n 0, 1) := by decide +kernel
theorem dX0_holdBy_25 : decode cX0_holdBy 25 = .ok (.dup, 1) := by decide +kernel
theorem dX0_holdBy_26 : decode cX0_holdBy 26 = .ok (.getfield 54, 3) := by decide +kernel
theorem dX0_holdBy_29 : decode cX0_holdBy 29 = .ok (.iconst 1, 1) := by decide +kernel
theorem dX0_holdBy_30 : decode cX0_holdBy 30 = .ok (.isub, 1) := by decide +kernel
theorem dX0_holdBy_31 : decode cX0_holdBy 31 = .ok (.putfield 54, 3) := by decide +kernel
theorem dX0_holdBy_34 : decode cX0_holdBy 34 = .ok (.return_, 1) := by decide +kernel
set_option maxRecDepth 20000 in
theorem ggX0_tonePeriod_X0_silent : GoodIn wsX0_tonePeriod wsX0_silent := goodIn_r _ [5, 6, 7, 8, 4, 9, 10, 11, 16, 17, 18, 19, 20, 21, 22, 23, 24, 25, 26] (by decide +kernel) (by decide +kernel)
set_option maxRecDepth 20000 in
theorem gX0_tonePeriod_X0_silent : GoodIn wsX0_tonePeriod (wsV RX0 114 RX0 yX0_silent wsX0_silent) := goodIn_app (goodIn_of _ (by decide +kernel)) ggX0_tonePeriod_X0_silent
set_option maxRecDepth 20000 in
theorem ggX0_tonePeriod_X0_repeatsBy : GoodIn wsX0_tonePeriod wsX0_repeatsBy := goodIn_r _ [15, 6, 7, 8, 4, 9, 10, 11, 16, 17, 18, 19, 20, 21, 22, 23, 24, 25, 26] (by decide +kernel) (by decide +kernel)
set_option maxRecDepth 20000 in
theorem gX0_tonePeriod_X0_repeatsBy : GoodIn wsX0_tonePeriod (wsV RX0 118 RX0 yX0_repeatsBy wsX0_repeatsBy) := goodIn_app (goodIn_of _ (by decide +kernel)) ggX0_tonePeriod_X0_repeatsBy
theorem dX0_tonePeriod_0 : decode cX0_tonePeriod 0 = .ok (.aload_n 0, 1) := by decide +kernel
theorem dX0_tonePeriod_1 : decode cX0_tonePeriod 1 = .ok (.invokevirtual 114, 3) := by decide +kernel
theorem dX0_tonePeriod_4 : decode cX0_tonePeriod 4 = .ok (.ifCond .eq 5, 3) := by decide +kernel
theorem dX0_tonePeriod_7 : decode cX0_tonePeriod 7 = .ok (.iconst 0, 1) := by decide +kernel
theorem dX0_tonePeriod_8 : decode cX0_tonePeriod 8 = .ok (.ireturn, 1) := by decide +kernel
theorem dX0_tonePeriod_9 : decode cX0_tonePeriod 9 = .ok (.iconst 1, 1) := by decide +kernel
theorem dX0_tonePeriod_10 : decode cX0_tonePeriod 10 = .ok (.istore_n 1, 1) := by decide +kernel
theorem dX0_tonePeriod_11 : decode cX0_tonePeriod 11 = .ok (.iload_n 1, 1) := by decide +kernel
theorem dX0_tonePeriod_12 : decode cX0_tonePeriod 12 = .ok (.bipush 8, 2) := by decide +kernel
theorem dX0_tonePeriod_14 : decode cX0_tonePeriod 14 = .ok (.if_icmp .gt 19, 3) := by decide +kernel
theorem dX0_tonePeriod_17 : decode cX0_tonePeriod 17 = .ok (.aload_n 0, 1) := by decide +kernel
theorem dX0_tonePeriod_18 : decode cX0_tonePeriod 18 = .ok (.iload_n 1, 1) := by decide +kernel
theorem dX0_tonePeriod_19 : decode cX0_tonePeriod 19 = .ok (.invokevirtual 118, 3) := by decide +kernel
theorem dX0_tonePeriod_22 : decode cX0_tonePeriod 22 = .ok (.ifCond .eq 5, 3) := by decide +kernel
theorem dX0_tonePeriod_25 : decode cX0_tonePeriod 25 = .ok (.iload_n 1, 1) := by decide +kernel
theorem dX0_tonePeriod_26 : decode cX0_tonePeriod 26 = .ok (.ireturn, 1) := by decide +kernel
theorem dX0_tonePeriod_27 : decode cX0_tonePeriod 27 = .ok (.iinc 1 1, 3) := by decide +kernel
theorem dX0_tonePeriod_30 : decode cX0_tonePeriod 30 = .ok (.goto (-19), 3) := by decide +kernel
theorem dX0_tonePeriod_33 : decode cX0_tonePeriod 33 = .ok (.iconst 0, 1) := by decide +kernel
theorem dX0_tonePeriod_34 : decode cX0_tonePeriod 34 = .ok (.ireturn, 1) := by decide +kernel
set_option maxRecDepth 20000 in
theorem ggX0_silent_X0_farAgo : GoodIn wsX0_silent wsX0_farAgo := goodIn_r _ [5, 6, 7, 8, 9, 10, 11, 12, 13, 14, 15, 16, 17, 18] (by decide +kernel) (by decide +kernel)
set_option maxRecDepth 20000 in
theorem gX0_silent_X0_farAgo : GoodIn wsX0_silent (wsV RX0 104 RX0 yX0_farAgo wsX0_farAgo) := goodIn_app (goodIn_of _ (by decide +kernel)) ggX0_silent_X0_farAgo
theorem dX0_silent_0 : decode cX0_silent 0 = .ok (.iconst 0, 1) := by decide +kernel
theorem dX0_silent_1 : decode cX0_silent 1 = .ok (.istore_n 1, 1) := by decide +kernel
theorem dX0_silent_2 : decode cX0_silent 2 = .ok (.iload_n 1, 1) := by decide +kernel
theorem dX0_silent_3 : decode cX0_silent 3 = .ok (.bipush 16, 2) := by decide +kernel
theorem dX0_silent_5 : decode cX0_silent 5 = .ok (.if_icmp .ge 19, 3) := by decide +kernel
theorem dX0_silent_8 : decode cX0_silent 8 = .ok (.aload_n 0, 1) := by decide +kernel
theorem dX0_silent_9 : decode cX0_silent 9 = .ok (.iload_n 1, 1) := by decide +kernel
theorem dX0_silent_10 : decode cX0_silent 10 = .ok (.invokevirtual 104, 3) := by decide +kernel
theorem dX0_silent_13 : decode cX0_silent 13 = .ok (.ifCond .eq 5, 3) := by decide +kernel
theorem dX0_silent_16 : decode cX0_silent 16 = .ok (.iconst 0, 1) := by decide +kernel
theorem dX0_silent_17 : decode cX0_silent 17 = .ok (.ireturn, 1) := by decide +kernel
theorem dX0_silent_18 : decode cX0_silent 18 = .ok (.iinc 1 1, 3) := by decide +kernel
theorem dX0_silent_21 : decode cX0_silent 21 = .ok (.goto (-19), 3) := by decide +kernel
theorem dX0_silent_24 : decode cX0_silent 24 = .ok (.iconst 1, 1) := by decide +kernel
theorem dX0_silent_25 : decode cX0_silent 25 = .ok (.ireturn, 1) := by decide +kernel
set_option maxRecDepth 20000 in
theorem ggX0_repeatsBy_X0_farAgo : GoodIn wsX0_repeatsBy wsX0_farAgo := goodIn_r _ [5, 6, 7, 8, 9, 10, 11, 12, 13, 14, 15, 16, 17, 18] (by decide +kernel) (by decide +kernel)
set_option maxRecDepth 20000 in
theorem gX0_repeatsBy_X0_farAgo : GoodIn wsX0_repeatsBy (wsV RX0 104 RX0 yX0_farAgo wsX0_farAgo) := goodIn_app (goodIn_of _ (by decide +kernel)) ggX0_repeatsBy_X0_farAgo
theorem dX0_repeatsBy_0 : decode cX0_repeatsBy 0 = .ok (.iconst 0, 1) := by decide +kernel
theorem dX0_repeatsBy_1 : decode cX0_repeatsBy 1 = .ok (.istore_n 2, 1) := by decide +kernel
theorem dX0_repeatsBy_2 : decode cX0_repeatsBy 2 = .ok (.iload_n 2, 1) := by decide +kernel
theorem dX0_repeatsBy_3 : decode cX0_repeatsBy 3 = .ok (.iload_n 1, 1) := by decide +kernel
theorem dX0_repeatsBy_4 : decode cX0_repeatsBy 4 = .ok (.iadd, 1) := by decide +kernel
theorem dX0_repeatsBy_5 : decode cX0_repeatsBy 5 = .ok (.bipush 16, 2) := by decide +kernel
theorem dX0_repeatsBy_7 : decode cX0_repeatsBy 7 = .ok (.if_icmp .ge 26, 3) := by decide +kernel
theorem dX0_repeatsBy_10 : decode cX0_repeatsBy 10 = .ok (.aload_n 0, 1) := by decide +kernel
theorem dX0_repeatsBy_11 : decode cX0_repeatsBy 11 = .ok (.iload_n 2, 1) := by decide +kernel
theorem dX0_repeatsBy_12 : decode cX0_repeatsBy 12 = .ok (.invokevirtual 104, 3) := by decide +kernel
theorem dX0_repeatsBy_15 : decode cX0_repeatsBy 15 = .ok (.aload_n 0, 1) := by decide +kernel
theorem dX0_repeatsBy_16 : decode cX0_repeatsBy 16 = .ok (.iload_n 2, 1) := by decide +kernel
theorem dX0_repeatsBy_17 : decode cX0_repeatsBy 17 = .ok (.iload_n 1, 1) := by decide +kernel
theorem dX0_repeatsBy_18 : decode cX0_repeatsBy 18 = .ok (.iadd, 1) := by decide +kernel
theorem dX0_repeatsBy_19 : decode cX0_repeatsBy 19 = .ok (.invokevirtual 104, 3) := by decide +kernel
theorem dX0_repeatsBy_22 : decode cX0_repeatsBy 22 = .ok (.if_icmp .eq 5, 3) := by decide +kernel
theorem dX0_repeatsBy_25 : decode cX0_repeatsBy 25 = .ok (.iconst 0, 1) := by decide +kernel
theorem dX0_repeatsBy_26 : decode cX0_repeatsBy 26 = .ok (.ireturn, 1) := by decide +kernel
theorem dX0_repeatsBy_27 : decode cX0_repeatsBy 27 = .ok (.iinc 2 1, 3) := by decide +kernel
theorem dX0_repeatsBy_30 : decode cX0_repeatsBy 30 = .ok (.goto (-28), 3) := by decide +kernel
theorem dX0_repeatsBy_33 : decode cX0_repeatsBy 33 = .ok (.iconst 1, 1) := by decide +kernel
theorem dX0_repeatsBy_34 : decode cX0_repeatsBy 34 = .ok (.ireturn, 1) := by decide +kernel
set_option maxRecDepth 20000 in
theorem ggX0_powerSeen_X0_seenBy : GoodIn wsX0_powerSeen wsX0_seenBy := goodIn_r _ [5, 6, 7, 8, 9, 4, 10, 11, 12, 13, 14, 15, 16, 17, 18, 19, 20, 21, 22, 23] (by decide +kernel) (by decide +kernel)
set_option maxRecDepth 20000 in
theorem gX0_powerSeen_X0_seenBy : GoodIn wsX0_powerSeen (wsV RX0 107 RX0 yX0_seenBy wsX0_seenBy) := goodIn_app (goodIn_of _ (by decide +kernel)) ggX0_powerSeen_X0_seenBy
theorem dX0_powerSeen_0 : decode cX0_powerSeen 0 = .ok (.iconst 0, 1) := by decide +kernel
theorem dX0_powerSeen_1 : decode cX0_powerSeen 1 = .ok (.istore_n 1, 1) := by decide +kernel
theorem dX0_powerSeen_2 : decode cX0_powerSeen 2 = .ok (.iconst 0, 1) := by decide +kernel
theorem dX0_powerSeen_3 : decode cX0_powerSeen 3 = .ok (.istore_n 2, 1) := by decide +kernel
theorem dX0_powerSeen_4 : decode cX0_powerSeen 4 = .ok (.iload_n 2, 1) := by decide +kernel
theorem dX0_powerSeen_5 : decode cX0_powerSeen 5 = .ok (.bipush 8, 2) := by decide +kernel
theorem dX0_powerSeen_7 : decode cX0_powerSeen 7 = .ok (.if_icmp .ge 21, 3) := by decide +kernel
theorem dX0_powerSeen_10 : decode cX0_powerSeen 10 = .ok (.aload_n 0, 1) := by decide +kernel
theorem dX0_powerSeen_11 : decode cX0_powerSeen 11 = .ok (.iload_n 2, 1) := by decide +kernel
theorem dX0_powerSeen_12 : decode cX0_powerSeen 12 = .ok (.invokevirtual 107, 3) := by decide +kernel
theorem dX0_powerSeen_15 : decode cX0_powerSeen 15 = .ok (.istore_n 3, 1) := by decide +kernel
theorem dX0_powerSeen_16 : decode cX0_powerSeen 16 = .ok (.iload_n 1, 1) := by decide +kernel
theorem dX0_powerSeen_17 : decode cX0_powerSeen 17 = .ok (.iload_n 3, 1) := by decide +kernel
theorem dX0_powerSeen_18 : decode cX0_powerSeen 18 = .ok (.iload_n 3, 1) := by decide +kernel
theorem dX0_powerSeen_19 : decode cX0_powerSeen 19 = .ok (.imul, 1) := by decide +kernel
theorem dX0_powerSeen_20 : decode cX0_powerSeen 20 = .ok (.iadd, 1) := by decide +kernel
theorem dX0_powerSeen_21 : decode cX0_powerSeen 21 = .ok (.istore_n 1, 1) := by decide +kernel
theorem dX0_powerSeen_22 : decode cX0_powerSeen 22 = .ok (.iinc 2 1, 3) := by decide +kernel
theorem dX0_powerSeen_25 : decode cX0_powerSeen 25 = .ok (.goto (-21), 3) := by decide +kernel
theorem dX0_powerSeen_28 : decode cX0_powerSeen 28 = .ok (.iload_n 1, 1) := by decide +kernel
theorem dX0_powerSeen_29 : decode cX0_powerSeen 29 = .ok (.ireturn, 1) := by decide +kernel
set_option maxRecDepth 20000 in
theorem ggX0_learn_X0_seenBy : GoodIn wsX0_learn wsX0_seenBy := goodIn_r _ [16, 1, 17, 18, 19, 15, 20, 21, 22, 23, 24, 25, 26, 27, 28, 29, 30, 31, 32, 33] (by decide +kernel) (by decide +kernel)
set_option maxRecDepth 20000 in
theorem gX0_learn_X0_seenBy : GoodIn wsX0_learn (wsV RX0 107 RX0 yX0_seenBy wsX0_seenBy) := goodIn_app (goodIn_of _ (by decide +kernel)) ggX0_learn_X0_seenBy
theorem dX0_learn_0 : decode cX0_learn 0 = .ok (.iload_n 2, 1) := by decide +kernel
theorem dX0_learn_1 : decode cX0_learn 1 = .ok (.ifCond .gt 4, 3) := by decide +kernel
theorem dX0_learn_4 : decode cX0_learn 4 = .ok (.return_, 1) := by decide +kernel
theorem dX0_learn_5 : decode cX0_learn 5 = .ok (.aload_n 0, 1) := by decide +kernel
theorem dX0_learn_6 : decode cX0_learn 6 = .ok (.getfield 18, 3) := by decide +kernel
theorem dX0_learn_9 : decode cX0_learn 9 = .ok (.iconst 0, 1) := by decide +kernel
theorem dX0_learn_10 : decode cX0_learn 10 = .ok (.iaload, 1) := by decide +kernel
theorem dX0_learn_11 : decode cX0_learn 11 = .ok (.i2l, 1) := by decide +kernel
theorem dX0_learn_12 : decode cX0_learn 12 = .ok (.iload_n 1, 1) := by decide +kernel
theorem dX0_learn_13 : decode cX0_learn 13 = .ok (.i2l, 1) := by decide +kernel
theorem dX0_learn_14 : decode cX0_learn 14 = .ok (.lmul, 1) := by decide +kernel
theorem dX0_learn_15 : decode cX0_learn 15 = .ok (.lstore_n 3, 1) := by decide +kernel
theorem dX0_learn_16 : decode cX0_learn 16 = .ok (.iconst 0, 1) := by decide +kernel
theorem dX0_learn_17 : decode cX0_learn 17 = .ok (.istore 5, 2) := by decide +kernel
theorem dX0_learn_19 : decode cX0_learn 19 = .ok (.iload 5, 2) := by decide +kernel
theorem dX0_learn_21 : decode cX0_learn 21 = .ok (.bipush 8, 2) := by decide +kernel
theorem dX0_learn_23 : decode cX0_learn 23 = .ok (.if_icmp .ge 54, 3) := by decide +kernel
theorem dX0_learn_26 : decode cX0_learn 26 = .ok (.lload_n 3, 1) := by decide +kernel
theorem dX0_learn_27 : decode cX0_learn 27 = .ok (.aload_n 0, 1) := by decide +kernel
theorem dX0_learn_28 : decode cX0_learn 28 = .ok (.iload 5, 2) := by decide +kernel
theorem dX0_learn_30 : decode cX0_learn 30 = .ok (.invokevirtual 107, 3) := by decide +kernel
theorem dX0_learn_33 : decode cX0_learn 33 = .ok (.i2l, 1) := by decide +kernel
theorem dX0_learn_34 : decode cX0_learn 34 = .ok (.lmul, 1) := by decide +kernel
theorem dX0_learn_35 : decode cX0_learn 35 = .ok (.iload_n 2, 1) := by decide +kernel
theorem dX0_learn_36 : decode cX0_learn 36 = .ok (.i2l, 1) := by decide +kernel
theorem dX0_learn_37 : decode cX0_learn 37 = .ok (.ldiv, 1) := by decide +kernel
theorem dX0_learn_38 : decode cX0_learn 38 = .ok (.lstore 6, 2) := by decide +kernel
theorem dX0_learn_40 : decode cX0_learn 40 = .ok (.aload_n 0, 1) := by decide +kernel
theorem dX0_learn_41 : decode cX0_learn 41 = .ok (.getfield 23, 3) := by decide +kernel
theorem dX0_learn_44 : decode cX0_learn 44 = .ok (.iload 5, 2) := by decide +kernel
theorem dX0_learn_46 : decode cX0_learn 46 = .ok (.ldc2_w 122, 3) := by decide +kernel
theorem dX0_learn_49 : decode cX0_learn 49 = .ok (.ldc2_w 124, 3) := by decide +kernel
theorem dX0_learn_52 : decode cX0_learn 52 = .ok (.aload_n 0, 1) := by decide +kernel
theorem dX0_learn_53 : decode cX0_learn 53 = .ok (.getfield 23, 3) := by decide +kernel
theorem dX0_learn_56 : decode cX0_learn 56 = .ok (.iload 5, 2) := by decide +kernel
theorem dX0_learn_58 : decode cX0_learn 58 = .ok (.iaload, 1) := by decide +kernel
theorem dX0_learn_59 : decode cX0_learn 59 = .ok (.i2l, 1) := by decide +kernel
theorem dX0_learn_60 : decode cX0_learn 60 = .ok (.lload 6, 2) := by decide +kernel
theorem dX0_learn_62 : decode cX0_learn 62 = .ok (.ladd, 1) := by decide +kernel
theorem dX0_learn_63 : decode cX0_learn 63 = .ok (.invokestatic 126, 3) := by decide +kernel
theorem dX0_learn_66 : decode cX0_learn 66 = .ok (.invokestatic 130, 3) := by decide +kernel
theorem dX0_learn_69 : decode cX0_learn 69 = .ok (.l2i, 1) := by decide +kernel
theorem dX0_learn_70 : decode cX0_learn 70 = .ok (.iastore, 1) := by decide +kernel
theorem dX0_learn_71 : decode cX0_learn 71 = .ok (.iinc 5 1, 3) := by decide +kernel
theorem dX0_learn_74 : decode cX0_learn 74 = .ok (.goto (-55), 3) := by decide +kernel
theorem dX0_learn_77 : decode cX0_learn 77 = .ok (.return_, 1) := by decide +kernel
set_option maxRecDepth 20000 in
theorem ggX0_softened_X1_limited : GoodIn wsX0_softened wsX1_limited := goodIn_r _ [9, 10, 11, 3, 12, 13, 14, 15] (by decide +kernel) (by decide +kernel)
set_option maxRecDepth 20000 in
theorem gX0_softened_X1_limited_n97 : GoodIn wsX0_softened (wsX1_limited) := ggX0_softened_X1_limited
set_option maxRecDepth 20000 in
theorem ggX0_softened_X1_nextSeed : GoodIn wsX0_softened wsX1_nextSeed := goodIn_r _ [17, 18] (by decide +kernel) (by decide +kernel)
set_option maxRecDepth 20000 in
theorem gX0_softened_X1_nextSeed_n132 : GoodIn wsX0_softened (wsX1_nextSeed) := ggX0_softened_X1_nextSeed
set_option maxRecDepth 20000 in
theorem ggX0_softened_X1_centred : GoodIn wsX0_softened wsX1_centred := goodIn_r _ [20] (by decide +kernel) (by decide +kernel)
set_option maxRecDepth 20000 in
theorem gX0_softened_X1_centred_n135 : GoodIn wsX0_softened (wsX1_centred) := ggX0_softened_X1_centred
theorem dX0_softened_0 : decode cX0_softened 0 = .ok (.iload_n 1, 1) := by decide +kernel
theorem dX0_softened_1 : decode cX0_softened 1 = .ok (.invokestatic 67, 3) := by decide +kernel
theorem dX0_softened_4 : decode cX0_softened 4 = .ok (.aload_n 0, 1) := by decide +kernel
theorem dX0_softened_5 : decode cX0_softened 5 = .ok (.getfield 18, 3) := by decide +kernel
theorem dX0_softened_8 : decode cX0_softened 8 = .ok (.iconst 2, 1) := by decide +kernel
theorem dX0_softened_9 : decode cX0_softened 9 = .ok (.iaload, 1) := by decide +kernel
theorem dX0_softened_10 : decode cX0_softened 10 = .ok (.if_icmp .lt 14, 3) := by decide +kernel
theorem dX0_softened_13 : decode cX0_softened 13 = .ok (.iload_n 1, 1) := by decide +kernel
theorem dX0_softened_14 : decode cX0_softened 14 = .ok (.sipush (-2000), 3) := by decide +kernel
theorem dX0_softened_17 : decode cX0_softened 17 = .ok (.sipush 2000, 3) := by decide +kernel
theorem dX0_softened_20 : decode cX0_softened 20 = .ok (.invokestatic 97, 3) := by decide +kernel
theorem dX0_softened_23 : decode cX0_softened 23 = .ok (.ireturn, 1) := by decide +kernel
theorem dX0_softened_24 : decode cX0_softened 24 = .ok (.aload_n 0, 1) := by decide +kernel
theorem dX0_softened_25 : decode cX0_softened 25 = .ok (.aload_n 0, 1) := by decide +kernel
theorem dX0_softened_26 : decode cX0_softened 26 = .ok (.getfield 57, 3) := by decide +kernel
theorem dX0_softened_29 : decode cX0_softened 29 = .ok (.invokestatic 132, 3) := by decide +kernel
theorem dX0_softened_32 : decode cX0_softened 32 = .ok (.putfield 57, 3) := by decide +kernel
theorem dX0_softened_35 : decode cX0_softened 35 = .ok (.aload_n 0, 1) := by decide +kernel
theorem dX0_softened_36 : decode cX0_softened 36 = .ok (.getfield 57, 3) := by decide +kernel
theorem dX0_softened_39 : decode cX0_softened 39 = .ok (.aload_n 0, 1) := by decide +kernel
theorem dX0_softened_40 : decode cX0_softened 40 = .ok (.getfield 18, 3) := by decide +kernel
theorem dX0_softened_43 : decode cX0_softened 43 = .ok (.iconst 3, 1) := by decide +kernel
theorem dX0_softened_44 : decode cX0_softened 44 = .ok (.iaload, 1) := by decide +kernel
theorem dX0_softened_45 : decode cX0_softened 45 = .ok (.invokestatic 135, 3) := by decide +kernel
theorem dX0_softened_48 : decode cX0_softened 48 = .ok (.ireturn, 1) := by decide +kernel
set_option maxRecDepth 20000 in
theorem ggX0_likenessOf_X0_nearAgo : GoodIn wsX0_likenessOf wsX0_nearAgo := goodIn_r _ [5, 6, 7, 13, 14, 15, 16, 17, 18, 19, 20, 21, 22, 23] (by decide +kernel) (by decide +kernel)
set_option maxRecDepth 20000 in
theorem gX0_likenessOf_X0_nearAgo : GoodIn wsX0_likenessOf (wsV RX0 138 RX0 yX0_nearAgo wsX0_nearAgo) := goodIn_app (goodIn_of _ (by decide +kernel)) ggX0_likenessOf_X0_nearAgo
set_option maxRecDepth 20000 in
theorem ggX0_likenessOf_X0_farAgo : GoodIn wsX0_likenessOf wsX0_farAgo := goodIn_r _ [11, 12, 7, 13, 14, 15, 16, 17, 18, 19, 20, 21, 22, 23] (by decide +kernel) (by decide +kernel)
set_option maxRecDepth 20000 in
theorem gX0_likenessOf_X0_farAgo : GoodIn wsX0_likenessOf (wsV RX0 104 RX0 yX0_farAgo wsX0_farAgo) := goodIn_app (goodIn_of _ (by decide +kernel)) ggX0_likenessOf_X0_farAgo
theorem dX0_likenessOf_0 : decode cX0_likenessOf 0 = .ok (.iconst 0, 1) := by decide +kernel
theorem dX0_likenessOf_1 : decode cX0_likenessOf 1 = .ok (.istore_n 2, 1) := by decide +kernel
theorem dX0_likenessOf_2 : decode cX0_likenessOf 2 = .ok (.iconst 0, 1) := by decide +kernel
theorem dX0_likenessOf_3 : decode cX0_likenessOf 3 = .ok (.istore_n 3, 1) := by decide +kernel
theorem dX0_likenessOf_4 : decode cX0_likenessOf 4 = .ok (.iload_n 3, 1) := by decide +kernel
theorem dX0_likenessOf_5 : decode cX0_likenessOf 5 = .ok (.bipush 24, 2) := by decide +kernel
theorem dX0_likenessOf_7 : decode cX0_likenessOf 7 = .ok (.if_icmp .ge 25, 3) := by decide +kernel
theorem dX0_likenessOf_10 : decode cX0_likenessOf 10 = .ok (.iload_n 2, 1) := by decide +kernel
theorem dX0_likenessOf_11 : decode cX0_likenessOf 11 = .ok (.aload_n 0, 1) := by decide +kernel
theorem dX0_likenessOf_12 : decode cX0_likenessOf 12 = .ok (.iload_n 3, 1) := by decide +kernel
theorem dX0_likenessOf_13 : decode cX0_likenessOf 13 = .ok (.invokevirtual 138, 3) := by decide +kernel
theorem dX0_likenessOf_16 : decode cX0_likenessOf 16 = .ok (.aload_n 0, 1) := by decide +kernel
theorem dX0_likenessOf_17 : decode cX0_likenessOf 17 = .ok (.iload_n 3, 1) := by decide +kernel
theorem dX0_likenessOf_18 : decode cX0_likenessOf 18 = .ok (.iload_n 1, 1) := by decide +kernel
theorem dX0_likenessOf_19 : decode cX0_likenessOf 19 = .ok (.iadd, 1) := by decide +kernel
theorem dX0_likenessOf_20 : decode cX0_likenessOf 20 = .ok (.invokevirtual 104, 3) := by decide +kernel
theorem dX0_likenessOf_23 : decode cX0_likenessOf 23 = .ok (.imul, 1) := by decide +kernel
theorem dX0_likenessOf_24 : decode cX0_likenessOf 24 = .ok (.iadd, 1) := by decide +kernel
theorem dX0_likenessOf_25 : decode cX0_likenessOf 25 = .ok (.istore_n 2, 1) := by decide +kernel
theorem dX0_likenessOf_26 : decode cX0_likenessOf 26 = .ok (.iinc 3 1, 3) := by decide +kernel
theorem dX0_likenessOf_29 : decode cX0_likenessOf 29 = .ok (.goto (-25), 3) := by decide +kernel
theorem dX0_likenessOf_32 : decode cX0_likenessOf 32 = .ok (.iload_n 2, 1) := by decide +kernel
theorem dX0_likenessOf_33 : decode cX0_likenessOf 33 = .ok (.ireturn, 1) := by decide +kernel
theorem dX0_startAnew_0 : decode cX0_startAnew 0 = .ok (.aload_n 0, 1) := by decide +kernel
theorem dX0_startAnew_1 : decode cX0_startAnew 1 = .ok (.getfield 18, 3) := by decide +kernel
theorem dX0_startAnew_4 : decode cX0_startAnew 4 = .ok (.iconst 4, 1) := by decide +kernel
theorem dX0_startAnew_5 : decode cX0_startAnew 5 = .ok (.iload_n 1, 1) := by decide +kernel
theorem dX0_startAnew_6 : decode cX0_startAnew 6 = .ok (.iastore, 1) := by decide +kernel
theorem dX0_startAnew_7 : decode cX0_startAnew 7 = .ok (.iconst 0, 1) := by decide +kernel
theorem dX0_startAnew_8 : decode cX0_startAnew 8 = .ok (.istore_n 2, 1) := by decide +kernel
theorem dX0_startAnew_9 : decode cX0_startAnew 9 = .ok (.iload_n 2, 1) := by decide +kernel
theorem dX0_startAnew_10 : decode cX0_startAnew 10 = .ok (.bipush 8, 2) := by decide +kernel
theorem dX0_startAnew_12 : decode cX0_startAnew 12 = .ok (.if_icmp .ge 16, 3) := by decide +kernel
theorem dX0_startAnew_15 : decode cX0_startAnew 15 = .ok (.aload_n 0, 1) := by decide +kernel
theorem dX0_startAnew_16 : decode cX0_startAnew 16 = .ok (.getfield 23, 3) := by decide +kernel
theorem dX0_startAnew_19 : decode cX0_startAnew 19 = .ok (.iload_n 2, 1) := by decide +kernel
theorem dX0_startAnew_20 : decode cX0_startAnew 20 = .ok (.iconst 0, 1) := by decide +kernel
theorem dX0_startAnew_21 : decode cX0_startAnew 21 = .ok (.iastore, 1) := by decide +kernel
theorem dX0_startAnew_22 : decode cX0_startAnew 22 = .ok (.iinc 2 1, 3) := by decide +kernel
theorem dX0_startAnew_25 : decode cX0_startAnew 25 = .ok (.goto (-16), 3) := by decide +kernel
theorem dX0_startAnew_28 : decode cX0_startAnew 28 = .ok (.return_, 1) := by decide +kernel
set_option maxRecDepth 20000 in
theorem ggX0_nearSquares_X0_nearAgo : GoodIn wsX0_nearSquares wsX0_nearAgo := goodIn_r _ [5, 6, 7, 8, 9, 10, 11, 12, 13, 14, 15, 16, 17, 18] (by decide +kernel) (by decide +kernel)
set_option maxRecDepth 20000 in
theorem gX0_nearSquares_X0_nearAgo : GoodIn wsX0_nearSquares (wsV RX0 138 RX0 yX0_nearAgo wsX0_nearAgo) := goodIn_app (goodIn_of _ (by decide +kernel)) ggX0_nearSquares_X0_nearAgo
theorem dX0_nearSquares_0 : decode cX0_nearSquares 0 = .ok (.iconst 0, 1) := by decide +kernel
theorem dX0_nearSquares_1 : decode cX0_nearSquares 1 = .ok (.istore_n 1, 1) := by decide +kernel
theorem dX0_nearSquares_2 : decode cX0_nearSquares 2 = .ok (.iconst 0, 1) := by decide +kernel
theorem dX0_nearSquares_3 : decode cX0_nearSquares 3 = .ok (.istore_n 2, 1) := by decide +kernel
theorem dX0_nearSquares_4 : decode cX0_nearSquares 4 = .ok (.iload_n 2, 1) := by decide +kernel
theorem dX0_nearSquares_5 : decode cX0_nearSquares 5 = .ok (.bipush 32, 2) := by decide +kernel
theorem dX0_nearSquares_7 : decode cX0_nearSquares 7 = .ok (.if_icmp .ge 23, 3) := by decide +kernel
theorem dX0_nearSquares_10 : decode cX0_nearSquares 10 = .ok (.iload_n 1, 1) := by decide +kernel
theorem dX0_nearSquares_11 : decode cX0_nearSquares 11 = .ok (.aload_n 0, 1) := by decide +kernel
theorem dX0_nearSquares_12 : decode cX0_nearSquares 12 = .ok (.iload_n 2, 1) := by decide +kernel
theorem dX0_nearSquares_13 : decode cX0_nearSquares 13 = .ok (.invokevirtual 138, 3) := by decide +kernel
theorem dX0_nearSquares_16 : decode cX0_nearSquares 16 = .ok (.aload_n 0, 1) := by decide +kernel
theorem dX0_nearSquares_17 : decode cX0_nearSquares 17 = .ok (.iload_n 2, 1) := by decide +kernel
theorem dX0_nearSquares_18 : decode cX0_nearSquares 18 = .ok (.invokevirtual 138, 3) := by decide +kernel
theorem dX0_nearSquares_21 : decode cX0_nearSquares 21 = .ok (.imul, 1) := by decide +kernel
theorem dX0_nearSquares_22 : decode cX0_nearSquares 22 = .ok (.iadd, 1) := by decide +kernel
theorem dX0_nearSquares_23 : decode cX0_nearSquares 23 = .ok (.istore_n 1, 1) := by decide +kernel
theorem dX0_nearSquares_24 : decode cX0_nearSquares 24 = .ok (.iinc 2 1, 3) := by decide +kernel
theorem dX0_nearSquares_27 : decode cX0_nearSquares 27 = .ok (.goto (-23), 3) := by decide +kernel
theorem dX0_nearSquares_30 : decode cX0_nearSquares 30 = .ok (.iload_n 1, 1) := by decide +kernel
theorem dX0_nearSquares_31 : decode cX0_nearSquares 31 = .ok (.ireturn, 1) := by decide +kernel
set_option maxRecDepth 20000 in
theorem ggX0_outSquares_X0_outAgo : GoodIn wsX0_outSquares wsX0_outAgo := goodIn_r _ [5, 6, 7, 8, 9, 10, 11, 12, 13, 14, 15, 16, 17, 18] (by decide +kernel) (by decide +kernel)
set_option maxRecDepth 20000 in
theorem gX0_outSquares_X0_outAgo : GoodIn wsX0_outSquares (wsV RX0 141 RX0 yX0_outAgo wsX0_outAgo) := goodIn_app (goodIn_of _ (by decide +kernel)) ggX0_outSquares_X0_outAgo
theorem dX0_outSquares_0 : decode cX0_outSquares 0 = .ok (.iconst 0, 1) := by decide +kernel
theorem dX0_outSquares_1 : decode cX0_outSquares 1 = .ok (.istore_n 1, 1) := by decide +kernel
theorem dX0_outSquares_2 : decode cX0_outSquares 2 = .ok (.iconst 0, 1) := by decide +kernel
theorem dX0_outSquares_3 : decode cX0_outSquares 3 = .ok (.istore_n 2, 1) := by decide +kernel
theorem dX0_outSquares_4 : decode cX0_outSquares 4 = .ok (.iload_n 2, 1) := by decide +kernel
theorem dX0_outSquares_5 : decode cX0_outSquares 5 = .ok (.bipush 32, 2) := by decide +kernel
theorem dX0_outSquares_7 : decode cX0_outSquares 7 = .ok (.if_icmp .ge 23, 3) := by decide +kernel
theorem dX0_outSquares_10 : decode cX0_outSquares 10 = .ok (.iload_n 1, 1) := by decide +kernel
theorem dX0_outSquares_11 : decode cX0_outSquares 11 = .ok (.aload_n 0, 1) := by decide +kernel
theorem dX0_outSquares_12 : decode cX0_outSquares 12 = .ok (.iload_n 2, 1) := by decide +kernel
theorem dX0_outSquares_13 : decode cX0_outSquares 13 = .ok (.invokevirtual 141, 3) := by decide +kernel
theorem dX0_outSquares_16 : decode cX0_outSquares 16 = .ok (.aload_n 0, 1) := by decide +kernel
theorem dX0_outSquares_17 : decode cX0_outSquares 17 = .ok (.iload_n 2, 1) := by decide +kernel
theorem dX0_outSquares_18 : decode cX0_outSquares 18 = .ok (.invokevirtual 141, 3) := by decide +kernel
theorem dX0_outSquares_21 : decode cX0_outSquares 21 = .ok (.imul, 1) := by decide +kernel
theorem dX0_outSquares_22 : decode cX0_outSquares 22 = .ok (.iadd, 1) := by decide +kernel
theorem dX0_outSquares_23 : decode cX0_outSquares 23 = .ok (.istore_n 1, 1) := by decide +kernel
theorem dX0_outSquares_24 : decode cX0_outSquares 24 = .ok (.iinc 2 1, 3) := by decide +kernel
theorem dX0_outSquares_27 : decode cX0_outSquares 27 = .ok (.goto (-23), 3) := by decide +kernel
theorem dX0_outSquares_30 : decode cX0_outSquares 30 = .ok (.iload_n 1, 1) := by decide +kernel
theorem dX0_outSquares_31 : decode cX0_outSquares 31 = .ok (.ireturn, 1) := by decide +kernel
set_option maxRecDepth 20000 in
theorem ggX0_beginning_X0_beginsAt : GoodIn wsX0_beginning wsX0_beginsAt := goodIn_r _ [6, 7, 8, 9, 10, 11, 12, 13, 14, 15, 16, 17, 18] (by decide +kernel) (by decide +kernel)
set_option maxRecDepth 20000 in
theorem gX0_beginning_X0_beginsAt : GoodIn wsX0_beginning (wsV RX0 144 RX0 yX0_beginsAt wsX0_beginsAt) := goodIn_app (goodIn_of _ (by decide +kernel)) ggX0_beginning_X0_beginsAt
theorem dX0_beginning_0 : decode cX0_beginning 0 = .ok (.iconst 0, 1) := by decide +kernel
theorem dX0_beginning_1 : decode cX0_beginning 1 = .ok (.istore_n 3, 1) := by decide +kernel
theorem dX0_beginning_2 : decode cX0_beginning 2 = .ok (.sipush 199, 3) := by decide +kernel
theorem dX0_beginning_5 : decode cX0_beginning 5 = .ok (.istore 4, 2) := by decide +kernel
theorem dX0_beginning_7 : decode cX0_beginning 7 = .ok (.iload 4, 2) := by decide +kernel
theorem dX0_beginning_9 : decode cX0_beginning 9 = .ok (.ifCond .lt 49, 3) := by decide +kernel
theorem dX0_beginning_12 : decode cX0_beginning 12 = .ok (.iload 4, 2) := by decide +kernel
theorem dX0_beginning_14 : decode cX0_beginning 14 = .ok (.aload_n 0, 1) := by decide +kernel
theorem dX0_beginning_15 : decode cX0_beginning 15 = .ok (.getfield 50, 3) := by decide +kernel
theorem dX0_beginning_18 : decode cX0_beginning 18 = .ok (.if_icmp .ge 34, 3) := by decide +kernel
theorem dX0_beginning_21 : decode cX0_beginning 21 = .ok (.aload_n 0, 1) := by decide +kernel
theorem dX0_beginning_22 : decode cX0_beginning 22 = .ok (.aload_n 0, 1) := by decide +kernel
theorem dX0_beginning_23 : decode cX0_beginning 23 = .ok (.getfield 50, 3) := by decide +kernel
theorem dX0_beginning_26 : decode cX0_beginning 26 = .ok (.iload 4, 2) := by decide +kernel
theorem dX0_beginning_28 : decode cX0_beginning 28 = .ok (.isub, 1) := by decide +kernel
theorem dX0_beginning_29 : decode cX0_beginning 29 = .ok (.iload_n 2, 1) := by decide +kernel
theorem dX0_beginning_30 : decode cX0_beginning 30 = .ok (.invokevirtual 144, 3) := by decide +kernel
theorem dX0_beginning_33 : decode cX0_beginning 33 = .ok (.ifCond .eq 19, 3) := by decide +kernel
theorem dX0_beginning_36 : decode cX0_beginning 36 = .ok (.iload_n 3, 1) := by decide +kernel
theorem dX0_beginning_37 : decode cX0_beginning 37 = .ok (.iload_n 1, 1) := by decide +kernel
theorem dX0_beginning_38 : decode cX0_beginning 38 = .ok (.if_icmp .ne 11, 3) := by decide +kernel
theorem dX0_beginning_41 : decode cX0_beginning 41 = .ok (.aload_n 0, 1) := by decide +kernel
theorem dX0_beginning_42 : decode cX0_beginning 42 = .ok (.getfield 50, 3) := by decide +kernel
theorem dX0_beginning_45 : decode cX0_beginning 45 = .ok (.iload 4, 2) := by decide +kernel
theorem dX0_beginning_47 : decode cX0_beginning 47 = .ok (.isub, 1) := by decide +kernel
theorem dX0_beginning_48 : decode cX0_beginning 48 = .ok (.ireturn, 1) := by decide +kernel
theorem dX0_beginning_49 : decode cX0_beginning 49 = .ok (.iinc 3 1, 3) := by decide +kernel
theorem dX0_beginning_52 : decode cX0_beginning 52 = .ok (.iinc 4 (-1), 3) := by decide +kernel
theorem dX0_beginning_55 : decode cX0_beginning 55 = .ok (.goto (-48), 3) := by decide +kernel
theorem dX0_beginning_58 : decode cX0_beginning 58 = .ok (.iload_n 1, 1) := by decide +kernel
theorem dX0_beginning_59 : decode cX0_beginning 59 = .ok (.iconst (-1), 1) := by decide +kernel
theorem dX0_beginning_60 : decode cX0_beginning 60 = .ok (.if_icmp .ne 7, 3) := by decide +kernel
theorem dX0_beginning_63 : decode cX0_beginning 63 = .ok (.iload_n 3, 1) := by decide +kernel
theorem dX0_beginning_64 : decode cX0_beginning 64 = .ok (.goto 5, 3) := by decide +kernel
theorem dX0_beginning_67 : decode cX0_beginning 67 = .ok (.bipush (-6), 2) := by decide +kernel
theorem dX0_beginning_69 : decode cX0_beginning 69 = .ok (.ireturn, 1) := by decide +kernel
theorem dX0_beginsAt_0 : decode cX0_beginsAt 0 = .ok (.aload_n 0, 1) := by decide +kernel
theorem dX0_beginsAt_1 : decode cX0_beginsAt 1 = .ok (.getfield 38, 3) := by decide +kernel
theorem dX0_beginsAt_4 : decode cX0_beginsAt 4 = .ok (.iload_n 1, 1) := by decide +kernel
theorem dX0_beginsAt_5 : decode cX0_beginsAt 5 = .ok (.sipush 255, 3) := by decide +kernel
theorem dX0_beginsAt_8 : decode cX0_beginsAt 8 = .ok (.iand, 1) := by decide +kernel
theorem dX0_beginsAt_9 : decode cX0_beginsAt 9 = .ok (.iaload, 1) := by decide +kernel
theorem dX0_beginsAt_10 : decode cX0_beginsAt 10 = .ok (.iload_n 2, 1) := by decide +kernel
theorem dX0_beginsAt_11 : decode cX0_beginsAt 11 = .ok (.iand, 1) := by decide +kernel
theorem dX0_beginsAt_12 : decode cX0_beginsAt 12 = .ok (.ifCond .eq 24, 3) := by decide +kernel
theorem dX0_beginsAt_15 : decode cX0_beginsAt 15 = .ok (.aload_n 0, 1) := by decide +kernel
theorem dX0_beginsAt_16 : decode cX0_beginsAt 16 = .ok (.getfield 38, 3) := by decide +kernel
theorem dX0_beginsAt_19 : decode cX0_beginsAt 19 = .ok (.iload_n 1, 1) := by decide +kernel
theorem dX0_beginsAt_20 : decode cX0_beginsAt 20 = .ok (.iconst 1, 1) := by decide +kernel
theorem dX0_beginsAt_21 : decode cX0_beginsAt 21 = .ok (.isub, 1) := by decide +kernel
theorem dX0_beginsAt_22 : decode cX0_beginsAt 22 = .ok (.sipush 255, 3) := by decide +kernel
theorem dX0_beginsAt_25 : decode cX0_beginsAt 25 = .ok (.iand, 1) := by decide +kernel
theorem dX0_beginsAt_26 : decode cX0_beginsAt 26 = .ok (.iaload, 1) := by decide +kernel
theorem dX0_beginsAt_27 : decode cX0_beginsAt 27 = .ok (.iload_n 2, 1) := by decide +kernel
theorem dX0_beginsAt_28 : decode cX0_beginsAt 28 = .ok (.iand, 1) := by decide +kernel
theorem dX0_beginsAt_29 : decode cX0_beginsAt 29 = .ok (.ifCond .ne 7, 3) := by decide +kernel
theorem dX0_beginsAt_32 : decode cX0_beginsAt 32 = .ok (.iconst 1, 1) := by decide +kernel
theorem dX0_beginsAt_33 : decode cX0_beginsAt 33 = .ok (.goto 4, 3) := by decide +kernel
theorem dX0_beginsAt_36 : decode cX0_beginsAt 36 = .ok (.iconst 0, 1) := by decide +kernel
theorem dX0_beginsAt_37 : decode cX0_beginsAt 37 = .ok (.ireturn, 1) := by decide +kernel
theorem dX0_tapSizes_0 : decode cX0_tapSizes 0 = .ok (.iconst 0, 1) := by decide +kernel
theorem dX0_tapSizes_1 : decode cX0_tapSizes 1 = .ok (.istore_n 1, 1) := by decide +kernel
theorem dX0_tapSizes_2 : decode cX0_tapSizes 2 = .ok (.iconst 0, 1) := by decide +kernel
theorem dX0_tapSizes_3 : decode cX0_tapSizes 3 = .ok (.istore_n 2, 1) := by decide +kernel
theorem dX0_tapSizes_4 : decode cX0_tapSizes 4 = .ok (.iload_n 2, 1) := by decide +kernel
theorem dX0_tapSizes_5 : decode cX0_tapSizes 5 = .ok (.bipush 8, 2) := by decide +kernel
theorem dX0_tapSizes_7 : decode cX0_tapSizes 7 = .ok (.if_icmp .ge 21, 3) := by decide +kernel
theorem dX0_tapSizes_10 : decode cX0_tapSizes 10 = .ok (.iload_n 1, 1) := by decide +kernel
theorem dX0_tapSizes_11 : decode cX0_tapSizes 11 = .ok (.aload_n 0, 1) := by decide +kernel
theorem dX0_tapSizes_12 : decode cX0_tapSizes 12 = .ok (.getfield 23, 3) := by decide +kernel
theorem dX0_tapSizes_15 : decode cX0_tapSizes 15 = .ok (.iload_n 2, 1) := by decide +kernel
theorem dX0_tapSizes_16 : decode cX0_tapSizes 16 = .ok (.iaload, 1) := by decide +kernel
theorem dX0_tapSizes_17 : decode cX0_tapSizes 17 = .ok (.invokestatic 67, 3) := by decide +kernel
theorem dX0_tapSizes_20 : decode cX0_tapSizes 20 = .ok (.iadd, 1) := by decide +kernel
theorem dX0_tapSizes_21 : decode cX0_tapSizes 21 = .ok (.istore_n 1, 1) := by decide +kernel
theorem dX0_tapSizes_22 : decode cX0_tapSizes 22 = .ok (.iinc 2 1, 3) := by decide +kernel
theorem dX0_tapSizes_25 : decode cX0_tapSizes 25 = .ok (.goto (-21), 3) := by decide +kernel
theorem dX0_tapSizes_28 : decode cX0_tapSizes 28 = .ok (.iload_n 1, 1) := by decide +kernel
theorem dX0_tapSizes_29 : decode cX0_tapSizes 29 = .ok (.ireturn, 1) := by decide +kernel
set_option maxRecDepth 20000 in
theorem ggX1_init_X0_init : GoodIn wsX1_init wsX0_init := goodIn_r _ [12, 13, 2, 3, 14, 15, 16, 17, 18, 19, 20, 21, 22, 23, 24, 25, 26, 27, 28, 29, 30, 31, 32, 33, 34, 35, 36, 37, 38, 39] (by decide +kernel) (by decide +kernel)
set_option maxRecDepth 20000 in
theorem gX1_init_X0_init : GoodIn wsX1_init (wsX0_init) := ggX1_init_X0_init
