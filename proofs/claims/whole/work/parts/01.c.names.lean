theorem dX1_init_0 : decode cX1_init 0 = .ok (.aload_n 0, 1) := by decide +kernel
theorem dX1_init_1 : decode cX1_init 1 = .ok (.invokespecial 3, 3) := by decide +kernel
theorem dX1_init_4 : decode cX1_init 4 = .ok (.aload_n 0, 1) := by decide +kernel
theorem dX1_init_5 : decode cX1_init 5 = .ok (.new 9, 3) := by decide +kernel
theorem dX1_init_8 : decode cX1_init 8 = .ok (.dup, 1) := by decide +kernel
theorem dX1_init_9 : decode cX1_init 9 = .ok (.invokespecial 11, 3) := by decide +kernel
theorem dX1_init_12 : decode cX1_init 12 = .ok (.putfield 12, 3) := by decide +kernel
theorem dX1_init_15 : decode cX1_init 15 = .ok (.aload_n 0, 1) := by decide +kernel
theorem dX1_init_16 : decode cX1_init 16 = .ok (.new 9, 3) := by decide +kernel
theorem dX1_init_19 : decode cX1_init 19 = .ok (.dup, 1) := by decide +kernel
theorem dX1_init_20 : decode cX1_init 20 = .ok (.invokespecial 11, 3) := by decide +kernel
theorem dX1_init_23 : decode cX1_init 23 = .ok (.putfield 16, 3) := by decide +kernel
theorem dX1_init_26 : decode cX1_init 26 = .ok (.aload_n 0, 1) := by decide +kernel
theorem dX1_init_27 : decode cX1_init 27 = .ok (.iconst 2, 1) := by decide +kernel
theorem dX1_init_28 : decode cX1_init 28 = .ok (.anewarray 9, 3) := by decide +kernel
theorem dX1_init_31 : decode cX1_init 31 = .ok (.dup, 1) := by decide +kernel
theorem dX1_init_32 : decode cX1_init 32 = .ok (.iconst 0, 1) := by decide +kernel
theorem dX1_init_33 : decode cX1_init 33 = .ok (.new 9, 3) := by decide +kernel
theorem dX1_init_36 : decode cX1_init 36 = .ok (.dup, 1) := by decide +kernel
theorem dX1_init_37 : decode cX1_init 37 = .ok (.invokespecial 11, 3) := by decide +kernel
theorem dX1_init_40 : decode cX1_init 40 = .ok (.aastore, 1) := by decide +kernel
theorem dX1_init_41 : decode cX1_init 41 = .ok (.dup, 1) := by decide +kernel
theorem dX1_init_42 : decode cX1_init 42 = .ok (.iconst 1, 1) := by decide +kernel
theorem dX1_init_43 : decode cX1_init 43 = .ok (.new 9, 3) := by decide +kernel
theorem dX1_init_46 : decode cX1_init 46 = .ok (.dup, 1) := by decide +kernel
theorem dX1_init_47 : decode cX1_init 47 = .ok (.invokespecial 11, 3) := by decide +kernel
theorem dX1_init_50 : decode cX1_init 50 = .ok (.aastore, 1) := by decide +kernel
theorem dX1_init_51 : decode cX1_init 51 = .ok (.putfield 19, 3) := by decide +kernel
theorem dX1_init_54 : decode cX1_init 54 = .ok (.return_, 1) := by decide +kernel
set_option maxRecDepth 20000 in
theorem ggX1_rule_X1_within : GoodIn wsX1_rule wsX1_within := goodIn_r _ [7] (by decide +kernel) (by decide +kernel)
set_option maxRecDepth 20000 in
theorem gX1_rule_X1_within : GoodIn wsX1_rule (va_wsS RX1 23 yX1_within wsX1_within) := goodIn_app (goodIn_of _ (by decide +kernel)) ggX1_rule_X1_within
theorem dX1_rule_0 : decode cX1_rule 0 = .ok (.iload_n 1, 1) := by decide +kernel
theorem dX1_rule_1 : decode cX1_rule 1 = .ok (.iconst 0, 1) := by decide +kernel
theorem dX1_rule_2 : decode cX1_rule 2 = .ok (.iconst 4, 1) := by decide +kernel
theorem dX1_rule_3 : decode cX1_rule 3 = .ok (.invokestatic 23, 3) := by decide +kernel
theorem dX1_rule_6 : decode cX1_rule 6 = .ok (.ifCond .eq 16, 3) := by decide +kernel
theorem dX1_rule_9 : decode cX1_rule 9 = .ok (.iload_n 2, 1) := by decide +kernel
theorem dX1_rule_10 : decode cX1_rule 10 = .ok (.iconst 0, 1) := by decide +kernel
theorem dX1_rule_11 : decode cX1_rule 11 = .ok (.getstatic 27, 3) := by decide +kernel
theorem dX1_rule_14 : decode cX1_rule 14 = .ok (.iload_n 1, 1) := by decide +kernel
theorem dX1_rule_15 : decode cX1_rule 15 = .ok (.iaload, 1) := by decide +kernel
theorem dX1_rule_16 : decode cX1_rule 16 = .ok (.invokestatic 23, 3) := by decide +kernel
theorem dX1_rule_19 : decode cX1_rule 19 = .ok (.ifCond .ne 6, 3) := by decide +kernel
theorem dX1_rule_22 : decode cX1_rule 22 = .ok (.bipush (-2), 2) := by decide +kernel
theorem dX1_rule_24 : decode cX1_rule 24 = .ok (.ireturn, 1) := by decide +kernel
theorem dX1_rule_25 : decode cX1_rule 25 = .ok (.aload_n 0, 1) := by decide +kernel
theorem dX1_rule_26 : decode cX1_rule 26 = .ok (.getfield 12, 3) := by decide +kernel
theorem dX1_rule_29 : decode cX1_rule 29 = .ok (.getfield 31, 3) := by decide +kernel
theorem dX1_rule_32 : decode cX1_rule 32 = .ok (.iload_n 1, 1) := by decide +kernel
theorem dX1_rule_33 : decode cX1_rule 33 = .ok (.iaload, 1) := by decide +kernel
theorem dX1_rule_34 : decode cX1_rule 34 = .ok (.istore_n 3, 1) := by decide +kernel
theorem dX1_rule_35 : decode cX1_rule 35 = .ok (.aload_n 0, 1) := by decide +kernel
theorem dX1_rule_36 : decode cX1_rule 36 = .ok (.getfield 12, 3) := by decide +kernel
theorem dX1_rule_39 : decode cX1_rule 39 = .ok (.getfield 31, 3) := by decide +kernel
theorem dX1_rule_42 : decode cX1_rule 42 = .ok (.iload_n 1, 1) := by decide +kernel
theorem dX1_rule_43 : decode cX1_rule 43 = .ok (.iload_n 2, 1) := by decide +kernel
theorem dX1_rule_44 : decode cX1_rule 44 = .ok (.iastore, 1) := by decide +kernel
theorem dX1_rule_45 : decode cX1_rule 45 = .ok (.iload_n 3, 1) := by decide +kernel
theorem dX1_rule_46 : decode cX1_rule 46 = .ok (.ireturn, 1) := by decide +kernel
set_option maxRecDepth 20000 in
theorem ggX1_tick_X1_within : GoodIn wsX1_tick wsX1_within := goodIn_r _ [6] (by decide +kernel) (by decide +kernel)
set_option maxRecDepth 20000 in
theorem gX1_tick_X1_within : GoodIn wsX1_tick (va_wsS RX1 23 yX1_within wsX1_within) := goodIn_app (goodIn_of _ (by decide +kernel)) ggX1_tick_X1_within
set_option maxRecDepth 20000 in
theorem ggX1_tick_X0_takeFar : GoodIn wsX1_tick wsX0_takeFar := goodIn_r _ [11, 12, 13, 100, 101, 102, 103, 104, 105, 106, 107, 108, 109, 110] (by decide +kernel) (by decide +kernel)
set_option maxRecDepth 20000 in
theorem gX1_tick_X0_takeFar : GoodIn wsX1_tick (wsV RX1 35 RX0 yX0_takeFar wsX0_takeFar) := goodIn_app (goodIn_of _ (by decide +kernel)) ggX1_tick_X0_takeFar
set_option maxRecDepth 20000 in
theorem ggX1_tick_X0_takeNear : GoodIn wsX1_tick wsX0_takeNear := goodIn_r _ [17, 18, 12, 19, 20, 21, 22, 23, 24, 25, 26, 27, 28, 29, 10, 30, 31, 32, 33, 34, 35, 36, 37, 38, 39, 40, 13, 41, 42, 43, 44, 45, 46, 47, 48, 49, 50, 51, 52, 53, 54, 55, 56, 57, 58, 59, 60, 61, 62, 63, 64, 65, 66, 67, 68, 69, 70, 71, 72, 73, 74, 75, 76, 77, 78, 79, 80, 81, 82, 83, 84, 85, 5, 86, 87, 88, 89, 90, 91, 92, 93, 94, 95, 100, 101, 102, 103, 104, 105, 106, 107, 108, 109, 110] (by decide +kernel) (by decide +kernel)
set_option maxRecDepth 20000 in
theorem gX1_tick_X0_takeNear : GoodIn wsX1_tick (wsV RX1 39 RX0 yX0_takeNear wsX0_takeNear) := goodIn_app (goodIn_of _ (by decide +kernel)) ggX1_tick_X0_takeNear
theorem dX1_tick_0 : decode cX1_tick 0 = .ok (.iload_n 1, 1) := by decide +kernel
theorem dX1_tick_1 : decode cX1_tick 1 = .ok (.sipush (-1000), 3) := by decide +kernel
theorem dX1_tick_4 : decode cX1_tick 4 = .ok (.sipush 1000, 3) := by decide +kernel
theorem dX1_tick_7 : decode cX1_tick 7 = .ok (.invokestatic 23, 3) := by decide +kernel
theorem dX1_tick_10 : decode cX1_tick 10 = .ok (.ifCond .eq 16, 3) := by decide +kernel
theorem dX1_tick_13 : decode cX1_tick 13 = .ok (.iload_n 2, 1) := by decide +kernel
theorem dX1_tick_14 : decode cX1_tick 14 = .ok (.sipush (-2000), 3) := by decide +kernel
theorem dX1_tick_17 : decode cX1_tick 17 = .ok (.sipush 2000, 3) := by decide +kernel
theorem dX1_tick_20 : decode cX1_tick 20 = .ok (.invokestatic 23, 3) := by decide +kernel
theorem dX1_tick_23 : decode cX1_tick 23 = .ok (.ifCond .ne 6, 3) := by decide +kernel
theorem dX1_tick_26 : decode cX1_tick 26 = .ok (.ldc 34, 2) := by decide +kernel
theorem dX1_tick_28 : decode cX1_tick 28 = .ok (.ireturn, 1) := by decide +kernel
theorem dX1_tick_29 : decode cX1_tick 29 = .ok (.aload_n 0, 1) := by decide +kernel
theorem dX1_tick_30 : decode cX1_tick 30 = .ok (.getfield 12, 3) := by decide +kernel
theorem dX1_tick_33 : decode cX1_tick 33 = .ok (.iload_n 1, 1) := by decide +kernel
theorem dX1_tick_34 : decode cX1_tick 34 = .ok (.invokevirtual 35, 3) := by decide +kernel
theorem dX1_tick_37 : decode cX1_tick 37 = .ok (.aload_n 0, 1) := by decide +kernel
theorem dX1_tick_38 : decode cX1_tick 38 = .ok (.getfield 12, 3) := by decide +kernel
theorem dX1_tick_41 : decode cX1_tick 41 = .ok (.iload_n 2, 1) := by decide +kernel
theorem dX1_tick_42 : decode cX1_tick 42 = .ok (.invokevirtual 39, 3) := by decide +kernel
theorem dX1_tick_45 : decode cX1_tick 45 = .ok (.ireturn, 1) := by decide +kernel
set_option maxRecDepth 20000 in
theorem ggX1_tap_X1_within : GoodIn wsX1_tap wsX1_within := goodIn_r _ [7] (by decide +kernel) (by decide +kernel)
set_option maxRecDepth 20000 in
theorem gX1_tap_X1_within : GoodIn wsX1_tap (va_wsS RX1 23 yX1_within wsX1_within) := goodIn_app (goodIn_of _ (by decide +kernel)) ggX1_tap_X1_within
theorem dX1_tap_0 : decode cX1_tap 0 = .ok (.iload_n 1, 1) := by decide +kernel
theorem dX1_tap_1 : decode cX1_tap 1 = .ok (.iconst 0, 1) := by decide +kernel
theorem dX1_tap_2 : decode cX1_tap 2 = .ok (.bipush 7, 2) := by decide +kernel
theorem dX1_tap_4 : decode cX1_tap 4 = .ok (.invokestatic 23, 3) := by decide +kernel
theorem dX1_tap_7 : decode cX1_tap 7 = .ok (.ifCond .eq 15, 3) := by decide +kernel
theorem dX1_tap_10 : decode cX1_tap 10 = .ok (.aload_n 0, 1) := by decide +kernel
theorem dX1_tap_11 : decode cX1_tap 11 = .ok (.getfield 12, 3) := by decide +kernel
theorem dX1_tap_14 : decode cX1_tap 14 = .ok (.getfield 43, 3) := by decide +kernel
theorem dX1_tap_17 : decode cX1_tap 17 = .ok (.iload_n 1, 1) := by decide +kernel
theorem dX1_tap_18 : decode cX1_tap 18 = .ok (.iaload, 1) := by decide +kernel
theorem dX1_tap_19 : decode cX1_tap 19 = .ok (.goto 5, 3) := by decide +kernel
theorem dX1_tap_22 : decode cX1_tap 22 = .ok (.ldc 34, 2) := by decide +kernel
theorem dX1_tap_24 : decode cX1_tap 24 = .ok (.ireturn, 1) := by decide +kernel
set_option maxRecDepth 20000 in
theorem ggX1_last_X1_within : GoodIn wsX1_last wsX1_within := goodIn_r _ [9] (by decide +kernel) (by decide +kernel)
set_option maxRecDepth 20000 in
theorem gX1_last_X1_within : GoodIn wsX1_last (va_wsS RX1 23 yX1_within wsX1_within) := goodIn_app (goodIn_of _ (by decide +kernel)) ggX1_last_X1_within
theorem dX1_last_0 : decode cX1_last 0 = .ok (.iload_n 1, 1) := by decide +kernel
theorem dX1_last_1 : decode cX1_last 1 = .ok (.iconst 0, 1) := by decide +kernel
theorem dX1_last_2 : decode cX1_last 2 = .ok (.bipush 7, 2) := by decide +kernel
theorem dX1_last_4 : decode cX1_last 4 = .ok (.invokestatic 23, 3) := by decide +kernel
theorem dX1_last_7 : decode cX1_last 7 = .ok (.ifCond .ne 6, 3) := by decide +kernel
theorem dX1_last_10 : decode cX1_last 10 = .ok (.ldc 34, 2) := by decide +kernel
theorem dX1_last_12 : decode cX1_last 12 = .ok (.ireturn, 1) := by decide +kernel
theorem dX1_last_13 : decode cX1_last 13 = .ok (.aload_n 0, 1) := by decide +kernel
theorem dX1_last_14 : decode cX1_last 14 = .ok (.getfield 12, 3) := by decide +kernel
theorem dX1_last_17 : decode cX1_last 17 = .ok (.getfield 46, 3) := by decide +kernel
theorem dX1_last_20 : decode cX1_last 20 = .ok (.ifCond .ne 8, 3) := by decide +kernel
theorem dX1_last_23 : decode cX1_last 23 = .ok (.ldc 50, 2) := by decide +kernel
theorem dX1_last_25 : decode cX1_last 25 = .ok (.goto 12, 3) := by decide +kernel
theorem dX1_last_28 : decode cX1_last 28 = .ok (.aload_n 0, 1) := by decide +kernel
theorem dX1_last_29 : decode cX1_last 29 = .ok (.getfield 12, 3) := by decide +kernel
theorem dX1_last_32 : decode cX1_last 32 = .ok (.getfield 51, 3) := by decide +kernel
theorem dX1_last_35 : decode cX1_last 35 = .ok (.iload_n 1, 1) := by decide +kernel
theorem dX1_last_36 : decode cX1_last 36 = .ok (.iaload, 1) := by decide +kernel
theorem dX1_last_37 : decode cX1_last 37 = .ok (.ireturn, 1) := by decide +kernel
set_option maxRecDepth 20000 in
theorem ggX1_ago_X1_within : GoodIn wsX1_ago wsX1_within := goodIn_r _ [8] (by decide +kernel) (by decide +kernel)
set_option maxRecDepth 20000 in
theorem gX1_ago_X1_within : GoodIn wsX1_ago (va_wsS RX1 23 yX1_within wsX1_within) := goodIn_app (goodIn_of _ (by decide +kernel)) ggX1_ago_X1_within
set_option maxRecDepth 20000 in
theorem ggX1_ago_X0_farAgo : GoodIn wsX1_ago wsX0_farAgo := goodIn_r _ [13, 14, 15, 30, 31, 32, 33, 34, 35, 36, 37, 38, 39, 40] (by decide +kernel) (by decide +kernel)
set_option maxRecDepth 20000 in
theorem gX1_ago_X0_farAgo : GoodIn wsX1_ago (wsV RX1 55 RX0 yX0_farAgo wsX0_farAgo) := goodIn_app (goodIn_of _ (by decide +kernel)) ggX1_ago_X0_farAgo
set_option maxRecDepth 20000 in
theorem ggX1_ago_X0_nearAgo : GoodIn wsX1_ago wsX0_nearAgo := goodIn_r _ [19, 20, 15, 30, 31, 32, 33, 34, 35, 36, 37, 38, 39, 40] (by decide +kernel) (by decide +kernel)
set_option maxRecDepth 20000 in
theorem gX1_ago_X0_nearAgo : GoodIn wsX1_ago (wsV RX1 58 RX0 yX0_nearAgo wsX0_nearAgo) := goodIn_app (goodIn_of _ (by decide +kernel)) ggX1_ago_X0_nearAgo
set_option maxRecDepth 20000 in
theorem ggX1_ago_X0_outAgo : GoodIn wsX1_ago wsX0_outAgo := goodIn_r _ [24, 25, 15, 30, 31, 32, 33, 34, 35, 36, 37, 38, 39, 40] (by decide +kernel) (by decide +kernel)
set_option maxRecDepth 20000 in
theorem gX1_ago_X0_outAgo : GoodIn wsX1_ago (wsV RX1 61 RX0 yX0_outAgo wsX0_outAgo) := goodIn_app (goodIn_of _ (by decide +kernel)) ggX1_ago_X0_outAgo
theorem dX1_ago_0 : decode cX1_ago 0 = .ok (.iload_n 1, 1) := by decide +kernel
theorem dX1_ago_1 : decode cX1_ago 1 = .ok (.iconst 0, 1) := by decide +kernel
theorem dX1_ago_2 : decode cX1_ago 2 = .ok (.bipush 31, 2) := by decide +kernel
theorem dX1_ago_4 : decode cX1_ago 4 = .ok (.invokestatic 23, 3) := by decide +kernel
theorem dX1_ago_7 : decode cX1_ago 7 = .ok (.ifCond .eq 12, 3) := by decide +kernel
theorem dX1_ago_10 : decode cX1_ago 10 = .ok (.iload_n 2, 1) := by decide +kernel
theorem dX1_ago_11 : decode cX1_ago 11 = .ok (.iconst 0, 1) := by decide +kernel
theorem dX1_ago_12 : decode cX1_ago 12 = .ok (.iconst 2, 1) := by decide +kernel
theorem dX1_ago_13 : decode cX1_ago 13 = .ok (.invokestatic 23, 3) := by decide +kernel
theorem dX1_ago_16 : decode cX1_ago 16 = .ok (.ifCond .ne 6, 3) := by decide +kernel
theorem dX1_ago_19 : decode cX1_ago 19 = .ok (.ldc 34, 2) := by decide +kernel
theorem dX1_ago_21 : decode cX1_ago 21 = .ok (.ireturn, 1) := by decide +kernel
theorem dX1_ago_22 : decode cX1_ago 22 = .ok (.iload_n 1, 1) := by decide +kernel
theorem dX1_ago_23 : decode cX1_ago 23 = .ok (.aload_n 0, 1) := by decide +kernel
theorem dX1_ago_24 : decode cX1_ago 24 = .ok (.getfield 12, 3) := by decide +kernel
theorem dX1_ago_27 : decode cX1_ago 27 = .ok (.getfield 46, 3) := by decide +kernel
theorem dX1_ago_30 : decode cX1_ago 30 = .ok (.if_icmp .lt 6, 3) := by decide +kernel
theorem dX1_ago_33 : decode cX1_ago 33 = .ok (.ldc 54, 2) := by decide +kernel
theorem dX1_ago_35 : decode cX1_ago 35 = .ok (.ireturn, 1) := by decide +kernel
theorem dX1_ago_36 : decode cX1_ago 36 = .ok (.iload_n 2, 1) := by decide +kernel
theorem dX1_ago_37 : decode cX1_ago 37 = .ok (.ifCond .ne 14, 3) := by decide +kernel
theorem dX1_ago_40 : decode cX1_ago 40 = .ok (.aload_n 0, 1) := by decide +kernel
theorem dX1_ago_41 : decode cX1_ago 41 = .ok (.getfield 12, 3) := by decide +kernel
theorem dX1_ago_44 : decode cX1_ago 44 = .ok (.iload_n 1, 1) := by decide +kernel
theorem dX1_ago_45 : decode cX1_ago 45 = .ok (.invokevirtual 55, 3) := by decide +kernel
theorem dX1_ago_48 : decode cX1_ago 48 = .ok (.goto 27, 3) := by decide +kernel
theorem dX1_ago_51 : decode cX1_ago 51 = .ok (.iload_n 2, 1) := by decide +kernel
theorem dX1_ago_52 : decode cX1_ago 52 = .ok (.iconst 1, 1) := by decide +kernel
theorem dX1_ago_53 : decode cX1_ago 53 = .ok (.if_icmp .ne 14, 3) := by decide +kernel
theorem dX1_ago_56 : decode cX1_ago 56 = .ok (.aload_n 0, 1) := by decide +kernel
theorem dX1_ago_57 : decode cX1_ago 57 = .ok (.getfield 12, 3) := by decide +kernel
theorem dX1_ago_60 : decode cX1_ago 60 = .ok (.iload_n 1, 1) := by decide +kernel
theorem dX1_ago_61 : decode cX1_ago 61 = .ok (.invokevirtual 58, 3) := by decide +kernel
theorem dX1_ago_64 : decode cX1_ago 64 = .ok (.goto 11, 3) := by decide +kernel
theorem dX1_ago_67 : decode cX1_ago 67 = .ok (.aload_n 0, 1) := by decide +kernel
theorem dX1_ago_68 : decode cX1_ago 68 = .ok (.getfield 12, 3) := by decide +kernel
theorem dX1_ago_71 : decode cX1_ago 71 = .ok (.iload_n 1, 1) := by decide +kernel
theorem dX1_ago_72 : decode cX1_ago 72 = .ok (.invokevirtual 61, 3) := by decide +kernel
theorem dX1_ago_75 : decode cX1_ago 75 = .ok (.ireturn, 1) := by decide +kernel
set_option maxRecDepth 20000 in
theorem ggX1_part_X1_within : GoodIn wsX1_part wsX1_within := goodIn_r _ [7] (by decide +kernel) (by decide +kernel)
set_option maxRecDepth 20000 in
theorem gX1_part_X1_within : GoodIn wsX1_part (va_wsS RX1 23 yX1_within wsX1_within) := goodIn_app (goodIn_of _ (by decide +kernel)) ggX1_part_X1_within
theorem dX1_part_0 : decode cX1_part 0 = .ok (.iload_n 1, 1) := by decide +kernel
theorem dX1_part_1 : decode cX1_part 1 = .ok (.iconst 0, 1) := by decide +kernel
theorem dX1_part_2 : decode cX1_part 2 = .ok (.bipush 8, 2) := by decide +kernel
theorem dX1_part_4 : decode cX1_part 4 = .ok (.invokestatic 23, 3) := by decide +kernel
theorem dX1_part_7 : decode cX1_part 7 = .ok (.ifCond .ne 6, 3) := by decide +kernel
theorem dX1_part_10 : decode cX1_part 10 = .ok (.ldc 34, 2) := by decide +kernel
theorem dX1_part_12 : decode cX1_part 12 = .ok (.ireturn, 1) := by decide +kernel
theorem dX1_part_13 : decode cX1_part 13 = .ok (.iload_n 1, 1) := by decide +kernel
theorem dX1_part_14 : decode cX1_part 14 = .ok (.bipush 8, 2) := by decide +kernel
theorem dX1_part_16 : decode cX1_part 16 = .ok (.if_icmp .ne 13, 3) := by decide +kernel
theorem dX1_part_19 : decode cX1_part 19 = .ok (.iload_n 2, 1) := by decide +kernel
theorem dX1_part_20 : decode cX1_part 20 = .ok (.iconst 0, 1) := by decide +kernel
theorem dX1_part_21 : decode cX1_part 21 = .ok (.bipush 15, 2) := by decide +kernel
theorem dX1_part_23 : decode cX1_part 23 = .ok (.invokestatic 23, 3) := by decide +kernel
theorem dX1_part_26 : decode cX1_part 26 = .ok (.goto 13, 3) := by decide +kernel
theorem dX1_part_29 : decode cX1_part 29 = .ok (.iload_n 2, 1) := by decide +kernel
theorem dX1_part_30 : decode cX1_part 30 = .ok (.sipush (-1024), 3) := by decide +kernel
theorem dX1_part_33 : decode cX1_part 33 = .ok (.sipush 1023, 3) := by decide +kernel
theorem dX1_part_36 : decode cX1_part 36 = .ok (.invokestatic 23, 3) := by decide +kernel
theorem dX1_part_39 : decode cX1_part 39 = .ok (.istore_n 3, 1) := by decide +kernel
theorem dX1_part_40 : decode cX1_part 40 = .ok (.iload_n 3, 1) := by decide +kernel
theorem dX1_part_41 : decode cX1_part 41 = .ok (.ifCond .ne 6, 3) := by decide +kernel
theorem dX1_part_44 : decode cX1_part 44 = .ok (.ldc 34, 2) := by decide +kernel
theorem dX1_part_46 : decode cX1_part 46 = .ok (.ireturn, 1) := by decide +kernel
theorem dX1_part_47 : decode cX1_part 47 = .ok (.aload_n 0, 1) := by decide +kernel
theorem dX1_part_48 : decode cX1_part 48 = .ok (.getfield 12, 3) := by decide +kernel
theorem dX1_part_51 : decode cX1_part 51 = .ok (.getfield 64, 3) := by decide +kernel
theorem dX1_part_54 : decode cX1_part 54 = .ok (.iload_n 1, 1) := by decide +kernel
theorem dX1_part_55 : decode cX1_part 55 = .ok (.iaload, 1) := by decide +kernel
theorem dX1_part_56 : decode cX1_part 56 = .ok (.istore 4, 2) := by decide +kernel
theorem dX1_part_58 : decode cX1_part 58 = .ok (.aload_n 0, 1) := by decide +kernel
theorem dX1_part_59 : decode cX1_part 59 = .ok (.getfield 12, 3) := by decide +kernel
theorem dX1_part_62 : decode cX1_part 62 = .ok (.getfield 64, 3) := by decide +kernel
theorem dX1_part_65 : decode cX1_part 65 = .ok (.iload_n 1, 1) := by decide +kernel
theorem dX1_part_66 : decode cX1_part 66 = .ok (.iload_n 2, 1) := by decide +kernel
theorem dX1_part_67 : decode cX1_part 67 = .ok (.iastore, 1) := by decide +kernel
theorem dX1_part_68 : decode cX1_part 68 = .ok (.iload 4, 2) := by decide +kernel
theorem dX1_part_70 : decode cX1_part 70 = .ok (.ireturn, 1) := by decide +kernel
set_option maxRecDepth 20000 in
theorem ggX1_speak_X1_within : GoodIn wsX1_speak wsX1_within := goodIn_r _ [6] (by decide +kernel) (by decide +kernel)
set_option maxRecDepth 20000 in
theorem gX1_speak_X1_within : GoodIn wsX1_speak (va_wsS RX1 23 yX1_within wsX1_within) := goodIn_app (goodIn_of _ (by decide +kernel)) ggX1_speak_X1_within
set_option maxRecDepth 20000 in
theorem ggX1_speak_X0_hearSpeech : GoodIn wsX1_speak wsX0_hearSpeech := goodIn_r _ [11, 12, 13, 14, 10, 15, 16, 17, 18, 19, 20, 21, 22, 23, 24, 25, 26, 27, 5, 28, 29, 30, 31, 32, 33, 34, 35, 36, 37, 38, 39, 40, 41, 42, 43, 44, 45, 46, 47, 48, 49, 50, 51, 52, 53, 54, 55, 56, 57, 58, 59, 60, 61, 62, 63, 64, 65, 66, 67, 68, 69, 70, 71, 72, 73, 74, 75, 76, 77, 78, 79, 80, 81, 82, 83, 84, 85, 86, 87, 88, 89, 90, 91, 92, 93, 94, 95, 96, 97, 98, 99, 100, 101, 102, 103, 104, 109, 110, 111, 112, 113, 114, 115, 116, 117, 118, 119] (by decide +kernel) (by decide +kernel)
set_option maxRecDepth 20000 in
theorem gX1_speak_X0_hearSpeech : GoodIn wsX1_speak (wsV RX1 67 RX0 yX0_hearSpeech wsX0_hearSpeech) := goodIn_app (goodIn_of _ (by decide +kernel)) ggX1_speak_X0_hearSpeech
theorem dX1_speak_0 : decode cX1_speak 0 = .ok (.iload_n 1, 1) := by decide +kernel
theorem dX1_speak_1 : decode cX1_speak 1 = .ok (.sipush (-1000), 3) := by decide +kernel
theorem dX1_speak_4 : decode cX1_speak 4 = .ok (.sipush 1000, 3) := by decide +kernel
theorem dX1_speak_7 : decode cX1_speak 7 = .ok (.invokestatic 23, 3) := by decide +kernel
theorem dX1_speak_10 : decode cX1_speak 10 = .ok (.ifCond .eq 16, 3) := by decide +kernel
theorem dX1_speak_13 : decode cX1_speak 13 = .ok (.iload_n 2, 1) := by decide +kernel
theorem dX1_speak_14 : decode cX1_speak 14 = .ok (.sipush (-2000), 3) := by decide +kernel
theorem dX1_speak_17 : decode cX1_speak 17 = .ok (.sipush 2000, 3) := by decide +kernel
theorem dX1_speak_20 : decode cX1_speak 20 = .ok (.invokestatic 23, 3) := by decide +kernel
theorem dX1_speak_23 : decode cX1_speak 23 = .ok (.ifCond .ne 6, 3) := by decide +kernel
theorem dX1_speak_26 : decode cX1_speak 26 = .ok (.ldc 34, 2) := by decide +kernel
theorem dX1_speak_28 : decode cX1_speak 28 = .ok (.ireturn, 1) := by decide +kernel
theorem dX1_speak_29 : decode cX1_speak 29 = .ok (.aload_n 0, 1) := by decide +kernel
theorem dX1_speak_30 : decode cX1_speak 30 = .ok (.getfield 12, 3) := by decide +kernel
theorem dX1_speak_33 : decode cX1_speak 33 = .ok (.iload_n 1, 1) := by decide +kernel
theorem dX1_speak_34 : decode cX1_speak 34 = .ok (.iload_n 2, 1) := by decide +kernel
theorem dX1_speak_35 : decode cX1_speak 35 = .ok (.invokevirtual 67, 3) := by decide +kernel
theorem dX1_speak_38 : decode cX1_speak 38 = .ok (.ireturn, 1) := by decide +kernel
set_option maxRecDepth 20000 in
theorem ggX1_run_X1_startsRun : GoodIn wsX1_run wsX1_startsRun := goodIn_r _ [10, 11, 12, 13, 9, 14] (by decide +kernel) (by decide +kernel)
set_option maxRecDepth 20000 in
theorem gX1_run_X1_startsRun : GoodIn wsX1_run (va_wsS RX1 71 yX1_startsRun wsX1_startsRun) := goodIn_app (goodIn_of _ (by decide +kernel)) ggX1_run_X1_startsRun
set_option maxRecDepth 20000 in
theorem ggX1_run_X1_within : GoodIn wsX1_run wsX1_within := goodIn_r _ [14] (by decide +kernel) (by decide +kernel)
set_option maxRecDepth 20000 in
theorem gX1_run_X1_within : GoodIn wsX1_run (va_wsS RX1 23 yX1_within wsX1_within) := goodIn_app (goodIn_of _ (by decide +kernel)) ggX1_run_X1_within
set_option maxRecDepth 20000 in
theorem ggX1_run_X1_nextSeed : GoodIn wsX1_run wsX1_nextSeed := goodIn_r _ [17, 18] (by decide +kernel) (by decide +kernel)
set_option maxRecDepth 20000 in
theorem gX1_run_X1_nextSeed : GoodIn wsX1_run (va_wsS RX1 75 yX1_nextSeed wsX1_nextSeed) := goodIn_app (goodIn_of _ (by decide +kernel)) ggX1_run_X1_nextSeed
set_option maxRecDepth 20000 in
theorem ggX1_run_X1_centred : GoodIn wsX1_run wsX1_centred := goodIn_r _ [21] (by decide +kernel) (by decide +kernel)
set_option maxRecDepth 20000 in
theorem gX1_run_X1_centred : GoodIn wsX1_run (va_wsS RX1 78 yX1_centred wsX1_centred) := goodIn_app (goodIn_of _ (by decide +kernel)) ggX1_run_X1_centred
set_option maxRecDepth 20000 in
theorem ggX1_run_X0_hearSpeech : GoodIn wsX1_run wsX0_hearSpeech := goodIn_r _ [26, 27, 28, 29, 25, 30, 31, 32, 33, 34, 35, 36, 37, 38, 39, 40, 41, 42, 9, 43, 44, 45, 5, 46, 47, 48, 49, 50, 51, 52, 53, 54, 55, 4, 6, 56, 57, 58, 59, 60, 61, 62, 63, 64, 65, 66, 67, 68, 69, 70, 71, 72, 73, 74, 75, 76, 77, 78, 79, 80, 81, 82, 83, 84, 85, 86, 87, 88, 89, 90, 91, 92, 93, 94, 95, 96, 97, 98, 99, 100, 101, 102, 103, 104, 105, 106, 107, 108, 109, 110, 111, 16, 17, 18, 20, 21, 116, 117, 118, 119, 120, 121, 122, 123, 124, 125, 126] (by decide +kernel) (by decide +kernel)
set_option maxRecDepth 20000 in
theorem gX1_run_X0_hearSpeech : GoodIn wsX1_run (wsV RX1 67 RX0 yX0_hearSpeech wsX0_hearSpeech) := goodIn_app (goodIn_of _ (by decide +kernel)) ggX1_run_X0_hearSpeech
theorem dX1_run_0 : decode cX1_run 0 = .ok (.iload_n 1, 1) := by decide +kernel
theorem dX1_run_1 : decode cX1_run 1 = .ok (.iload_n 3, 1) := by decide +kernel
theorem dX1_run_2 : decode cX1_run 2 = .ok (.invokestatic 71, 3) := by decide +kernel
theorem dX1_run_5 : decode cX1_run 5 = .ok (.ifCond .eq 13, 3) := by decide +kernel
theorem dX1_run_8 : decode cX1_run 8 = .ok (.iload_n 2, 1) := by decide +kernel
theorem dX1_run_9 : decode cX1_run 9 = .ok (.iconst 1, 1) := by decide +kernel
theorem dX1_run_10 : decode cX1_run 10 = .ok (.bipush 60, 2) := by decide +kernel
theorem dX1_run_12 : decode cX1_run 12 = .ok (.invokestatic 23, 3) := by decide +kernel
theorem dX1_run_15 : decode cX1_run 15 = .ok (.ifCond .ne 6, 3) := by decide +kernel
theorem dX1_run_18 : decode cX1_run 18 = .ok (.bipush (-2), 2) := by decide +kernel
theorem dX1_run_20 : decode cX1_run 20 = .ok (.ireturn, 1) := by decide +kernel
theorem dX1_run_21 : decode cX1_run 21 = .ok (.iload_n 1, 1) := by decide +kernel
theorem dX1_run_22 : decode cX1_run 22 = .ok (.istore 4, 2) := by decide +kernel
theorem dX1_run_24 : decode cX1_run 24 = .ok (.iconst 0, 1) := by decide +kernel
theorem dX1_run_25 : decode cX1_run 25 = .ok (.istore 5, 2) := by decide +kernel
theorem dX1_run_27 : decode cX1_run 27 = .ok (.iconst 0, 1) := by decide +kernel
theorem dX1_run_28 : decode cX1_run 28 = .ok (.istore 6, 2) := by decide +kernel
theorem dX1_run_30 : decode cX1_run 30 = .ok (.iload 6, 2) := by decide +kernel
theorem dX1_run_32 : decode cX1_run 32 = .ok (.iload_n 2, 1) := by decide +kernel
theorem dX1_run_33 : decode cX1_run 33 = .ok (.if_icmp .ge 48, 3) := by decide +kernel
theorem dX1_run_36 : decode cX1_run 36 = .ok (.iload 4, 2) := by decide +kernel
theorem dX1_run_38 : decode cX1_run 38 = .ok (.invokestatic 75, 3) := by decide +kernel
theorem dX1_run_41 : decode cX1_run 41 = .ok (.istore 4, 2) := by decide +kernel
theorem dX1_run_43 : decode cX1_run 43 = .ok (.aload_n 0, 1) := by decide +kernel
theorem dX1_run_44 : decode cX1_run 44 = .ok (.getfield 12, 3) := by decide +kernel
theorem dX1_run_47 : decode cX1_run 47 = .ok (.iload 4, 2) := by decide +kernel
theorem dX1_run_49 : decode cX1_run 49 = .ok (.iload_n 3, 1) := by decide +kernel
theorem dX1_run_50 : decode cX1_run 50 = .ok (.invokestatic 78, 3) := by decide +kernel
theorem dX1_run_53 : decode cX1_run 53 = .ok (.iconst 0, 1) := by decide +kernel
theorem dX1_run_54 : decode cX1_run 54 = .ok (.invokevirtual 67, 3) := by decide +kernel
theorem dX1_run_57 : decode cX1_run 57 = .ok (.pop, 1) := by decide +kernel
theorem dX1_run_58 : decode cX1_run 58 = .ok (.iload 5, 2) := by decide +kernel
theorem dX1_run_60 : decode cX1_run 60 = .ok (.aload_n 0, 1) := by decide +kernel
theorem dX1_run_61 : decode cX1_run 61 = .ok (.getfield 12, 3) := by decide +kernel
theorem dX1_run_64 : decode cX1_run 64 = .ok (.getfield 51, 3) := by decide +kernel
theorem dX1_run_67 : decode cX1_run 67 = .ok (.iconst 1, 1) := by decide +kernel
theorem dX1_run_68 : decode cX1_run 68 = .ok (.iaload, 1) := by decide +kernel
theorem dX1_run_69 : decode cX1_run 69 = .ok (.invokestatic 81, 3) := by decide +kernel
theorem dX1_run_72 : decode cX1_run 72 = .ok (.iadd, 1) := by decide +kernel
theorem dX1_run_73 : decode cX1_run 73 = .ok (.istore 5, 2) := by decide +kernel
theorem dX1_run_75 : decode cX1_run 75 = .ok (.iinc 6 1, 3) := by decide +kernel
theorem dX1_run_78 : decode cX1_run 78 = .ok (.goto (-48), 3) := by decide +kernel
theorem dX1_run_81 : decode cX1_run 81 = .ok (.iload 5, 2) := by decide +kernel
theorem dX1_run_83 : decode cX1_run 83 = .ok (.ireturn, 1) := by decide +kernel
set_option maxRecDepth 20000 in
theorem ggX1_learnt_X1_startsRun : GoodIn wsX1_learnt wsX1_startsRun := goodIn_r _ [11, 12, 13, 14, 10, 15] (by decide +kernel) (by decide +kernel)
set_option maxRecDepth 20000 in
theorem gX1_learnt_X1_startsRun : GoodIn wsX1_learnt (va_wsS RX1 71 yX1_startsRun wsX1_startsRun) := goodIn_app (goodIn_of _ (by decide +kernel)) ggX1_learnt_X1_startsRun
set_option maxRecDepth 20000 in
theorem ggX1_learnt_X1_within : GoodIn wsX1_learnt wsX1_within := goodIn_r _ [15] (by decide +kernel) (by decide +kernel)
set_option maxRecDepth 20000 in
theorem gX1_learnt_X1_within : GoodIn wsX1_learnt (va_wsS RX1 23 yX1_within wsX1_within) := goodIn_app (goodIn_of _ (by decide +kernel)) ggX1_learnt_X1_within
set_option maxRecDepth 20000 in
theorem ggX1_learnt_X0_copyFrom : GoodIn wsX1_learnt wsX0_copyFrom := goodIn_r _ [20, 21, 22, 23, 24, 25, 26, 27, 28, 29, 30, 31, 32, 33, 34, 35, 125, 126, 127, 128, 129, 130, 131, 132, 133, 134, 135] (by decide +kernel) (by decide +kernel)
set_option maxRecDepth 20000 in
theorem gX1_learnt_X0_copyFrom : GoodIn wsX1_learnt (wsV RX1 86 RX0 yX0_copyFrom wsX0_copyFrom) := goodIn_app (goodIn_of _ (by decide +kernel)) ggX1_learnt_X0_copyFrom
set_option maxRecDepth 20000 in
theorem ggX1_learnt_X1_nextSeed : GoodIn wsX1_learnt wsX1_nextSeed := goodIn_r _ [38, 39] (by decide +kernel) (by decide +kernel)
set_option maxRecDepth 20000 in
theorem gX1_learnt_X1_nextSeed : GoodIn wsX1_learnt (va_wsS RX1 75 yX1_nextSeed wsX1_nextSeed) := goodIn_app (goodIn_of _ (by decide +kernel)) ggX1_learnt_X1_nextSeed
set_option maxRecDepth 20000 in
theorem ggX1_learnt_X1_centred : GoodIn wsX1_learnt wsX1_centred := goodIn_r _ [42] (by decide +kernel) (by decide +kernel)
set_option maxRecDepth 20000 in
theorem gX1_learnt_X1_centred : GoodIn wsX1_learnt (va_wsS RX1 78 yX1_centred wsX1_centred) := goodIn_app (goodIn_of _ (by decide +kernel)) ggX1_learnt_X1_centred
set_option maxRecDepth 20000 in
theorem ggX1_learnt_X0_hearSpeech : GoodIn wsX1_learnt wsX0_hearSpeech := goodIn_r _ [46, 47, 48, 49, 19, 50, 33, 28, 51, 52, 53, 54, 27, 55, 56, 57, 58, 59, 10, 60, 61, 62, 6, 63, 64, 65, 66, 67, 68, 69, 70, 29, 71, 5, 7, 34, 30, 31, 32, 72, 73, 74, 75, 26, 76, 77, 78, 79, 21, 80, 81, 82, 83, 84, 85, 86, 87, 88, 89, 90, 91, 92, 93, 94, 95, 96, 97, 98, 99, 100, 101, 102, 103, 104, 105, 106, 107, 108, 109, 110, 111, 112, 113, 114, 115, 116, 117, 118, 119, 120, 35, 37, 38, 39, 41, 42, 125, 126, 127, 128, 129, 130, 131, 132, 133, 134, 135] (by decide +kernel) (by decide +kernel)
set_option maxRecDepth 20000 in
theorem gX1_learnt_X0_hearSpeech : GoodIn wsX1_learnt (wsV RX1 67 RX0 yX0_hearSpeech wsX0_hearSpeech) := goodIn_app (goodIn_of _ (by decide +kernel)) ggX1_learnt_X0_hearSpeech
theorem dX1_learnt_0 : decode cX1_learnt 0 = .ok (.iload_n 1, 1) := by decide +kernel
theorem dX1_learnt_1 : decode cX1_learnt 1 = .ok (.iload_n 2, 1) := by decide +kernel
theorem dX1_learnt_2 : decode cX1_learnt 2 = .ok (.invokestatic 71, 3) := by decide +kernel
theorem dX1_learnt_5 : decode cX1_learnt 5 = .ok (.ifCond .eq 14, 3) := by decide +kernel
theorem dX1_learnt_8 : decode cX1_learnt 8 = .ok (.iload_n 3, 1) := by decide +kernel
theorem dX1_learnt_9 : decode cX1_learnt 9 = .ok (.iconst 0, 1) := by decide +kernel
theorem dX1_learnt_10 : decode cX1_learnt 10 = .ok (.sipush 999, 3) := by decide +kernel
theorem dX1_learnt_13 : decode cX1_learnt 13 = .ok (.invokestatic 23, 3) := by decide +kernel
theorem dX1_learnt_16 : decode cX1_learnt 16 = .ok (.ifCond .ne 6, 3) := by decide +kernel
theorem dX1_learnt_19 : decode cX1_learnt 19 = .ok (.bipush (-2), 2) := by decide +kernel
theorem dX1_learnt_21 : decode cX1_learnt 21 = .ok (.ireturn, 1) := by decide +kernel
theorem dX1_learnt_22 : decode cX1_learnt 22 = .ok (.aload_n 0, 1) := by decide +kernel
theorem dX1_learnt_23 : decode cX1_learnt 23 = .ok (.getfield 16, 3) := by decide +kernel
theorem dX1_learnt_26 : decode cX1_learnt 26 = .ok (.aload_n 0, 1) := by decide +kernel
theorem dX1_learnt_27 : decode cX1_learnt 27 = .ok (.getfield 12, 3) := by decide +kernel
theorem dX1_learnt_30 : decode cX1_learnt 30 = .ok (.invokevirtual 86, 3) := by decide +kernel
theorem dX1_learnt_33 : decode cX1_learnt 33 = .ok (.iload_n 1, 1) := by decide +kernel
theorem dX1_learnt_34 : decode cX1_learnt 34 = .ok (.istore 4, 2) := by decide +kernel
theorem dX1_learnt_36 : decode cX1_learnt 36 = .ok (.iconst 0, 1) := by decide +kernel
theorem dX1_learnt_37 : decode cX1_learnt 37 = .ok (.istore 5, 2) := by decide +kernel
theorem dX1_learnt_39 : decode cX1_learnt 39 = .ok (.iconst 1, 1) := by decide +kernel
theorem dX1_learnt_40 : decode cX1_learnt 40 = .ok (.istore 6, 2) := by decide +kernel
theorem dX1_learnt_42 : decode cX1_learnt 42 = .ok (.iload 6, 2) := by decide +kernel
theorem dX1_learnt_44 : decode cX1_learnt 44 = .ok (.sipush 200, 3) := by decide +kernel
theorem dX1_learnt_47 : decode cX1_learnt 47 = .ok (.if_icmp .gt 67, 3) := by decide +kernel
theorem dX1_learnt_50 : decode cX1_learnt 50 = .ok (.iload 4, 2) := by decide +kernel
theorem dX1_learnt_52 : decode cX1_learnt 52 = .ok (.invokestatic 75, 3) := by decide +kernel
theorem dX1_learnt_55 : decode cX1_learnt 55 = .ok (.istore 4, 2) := by decide +kernel
theorem dX1_learnt_57 : decode cX1_learnt 57 = .ok (.aload_n 0, 1) := by decide +kernel
theorem dX1_learnt_58 : decode cX1_learnt 58 = .ok (.getfield 16, 3) := by decide +kernel
theorem dX1_learnt_61 : decode cX1_learnt 61 = .ok (.iload 4, 2) := by decide +kernel
theorem dX1_learnt_63 : decode cX1_learnt 63 = .ok (.iload_n 2, 1) := by decide +kernel
theorem dX1_learnt_64 : decode cX1_learnt 64 = .ok (.invokestatic 78, 3) := by decide +kernel
theorem dX1_learnt_67 : decode cX1_learnt 67 = .ok (.iconst 0, 1) := by decide +kernel
theorem dX1_learnt_68 : decode cX1_learnt 68 = .ok (.invokevirtual 67, 3) := by decide +kernel
theorem dX1_learnt_71 : decode cX1_learnt 71 = .ok (.pop, 1) := by decide +kernel
theorem dX1_learnt_72 : decode cX1_learnt 72 = .ok (.aload_n 0, 1) := by decide +kernel
theorem dX1_learnt_73 : decode cX1_learnt 73 = .ok (.getfield 16, 3) := by decide +kernel
theorem dX1_learnt_76 : decode cX1_learnt 76 = .ok (.getfield 51, 3) := by decide +kernel
theorem dX1_learnt_79 : decode cX1_learnt 79 = .ok (.iconst 1, 1) := by decide +kernel
theorem dX1_learnt_80 : decode cX1_learnt 80 = .ok (.iaload, 1) := by decide +kernel
theorem dX1_learnt_81 : decode cX1_learnt 81 = .ok (.invokestatic 81, 3) := by decide +kernel
theorem dX1_learnt_84 : decode cX1_learnt 84 = .ok (.iload_n 3, 1) := by decide +kernel
theorem dX1_learnt_85 : decode cX1_learnt 85 = .ok (.if_icmp .gt 10, 3) := by decide +kernel
theorem dX1_learnt_88 : decode cX1_learnt 88 = .ok (.iload 5, 2) := by decide +kernel
theorem dX1_learnt_90 : decode cX1_learnt 90 = .ok (.iconst 1, 1) := by decide +kernel
theorem dX1_learnt_91 : decode cX1_learnt 91 = .ok (.iadd, 1) := by decide +kernel
theorem dX1_learnt_92 : decode cX1_learnt 92 = .ok (.goto 4, 3) := by decide +kernel
theorem dX1_learnt_95 : decode cX1_learnt 95 = .ok (.iconst 0, 1) := by decide +kernel
theorem dX1_learnt_96 : decode cX1_learnt 96 = .ok (.istore 5, 2) := by decide +kernel
theorem dX1_learnt_98 : decode cX1_learnt 98 = .ok (.iload 5, 2) := by decide +kernel
theorem dX1_learnt_100 : decode cX1_learnt 100 = .ok (.bipush 8, 2) := by decide +kernel
theorem dX1_learnt_102 : decode cX1_learnt 102 = .ok (.if_icmp .lt 6, 3) := by decide +kernel
theorem dX1_learnt_105 : decode cX1_learnt 105 = .ok (.iload 6, 2) := by decide +kernel
theorem dX1_learnt_107 : decode cX1_learnt 107 = .ok (.ireturn, 1) := by decide +kernel
theorem dX1_learnt_108 : decode cX1_learnt 108 = .ok (.iinc 6 1, 3) := by decide +kernel
theorem dX1_learnt_111 : decode cX1_learnt 111 = .ok (.goto (-69), 3) := by decide +kernel
theorem dX1_learnt_114 : decode cX1_learnt 114 = .ok (.bipush (-6), 2) := by decide +kernel
theorem dX1_learnt_116 : decode cX1_learnt 116 = .ok (.ireturn, 1) := by decide +kernel
set_option maxRecDepth 20000 in
theorem ggX1_likeness_X1_within : GoodIn wsX1_likeness wsX1_within := goodIn_r _ [6] (by decide +kernel) (by decide +kernel)
set_option maxRecDepth 20000 in
theorem gX1_likeness_X1_within : GoodIn wsX1_likeness (va_wsS RX1 23 yX1_within wsX1_within) := goodIn_app (goodIn_of _ (by decide +kernel)) ggX1_likeness_X1_within
set_option maxRecDepth 20000 in
theorem ggX1_likeness_X0_likenessOf : GoodIn wsX1_likeness wsX0_likenessOf := goodIn_r _ [11, 12, 13, 14, 10, 15, 16, 17, 18, 19, 20, 21, 22, 27, 28, 29, 30, 31, 32, 33, 34, 35, 36, 37] (by decide +kernel) (by decide +kernel)
set_option maxRecDepth 20000 in
theorem gX1_likeness_X0_likenessOf : GoodIn wsX1_likeness (wsV RX1 90 RX0 yX0_likenessOf wsX0_likenessOf) := goodIn_app (goodIn_of _ (by decide +kernel)) ggX1_likeness_X0_likenessOf
theorem dX1_likeness_0 : decode cX1_likeness 0 = .ok (.iload_n 1, 1) := by decide +kernel
theorem dX1_likeness_1 : decode cX1_likeness 1 = .ok (.iconst 0, 1) := by decide +kernel
theorem dX1_likeness_2 : decode cX1_likeness 2 = .ok (.bipush 15, 2) := by decide +kernel
theorem dX1_likeness_4 : decode cX1_likeness 4 = .ok (.invokestatic 23, 3) := by decide +kernel
theorem dX1_likeness_7 : decode cX1_likeness 7 = .ok (.ifCond .eq 14, 3) := by decide +kernel
theorem dX1_likeness_10 : decode cX1_likeness 10 = .ok (.aload_n 0, 1) := by decide +kernel
theorem dX1_likeness_11 : decode cX1_likeness 11 = .ok (.getfield 12, 3) := by decide +kernel
theorem dX1_likeness_14 : decode cX1_likeness 14 = .ok (.iload_n 1, 1) := by decide +kernel
theorem dX1_likeness_15 : decode cX1_likeness 15 = .ok (.invokevirtual 90, 3) := by decide +kernel
theorem dX1_likeness_18 : decode cX1_likeness 18 = .ok (.goto 5, 3) := by decide +kernel
theorem dX1_likeness_21 : decode cX1_likeness 21 = .ok (.ldc 34, 2) := by decide +kernel
theorem dX1_likeness_23 : decode cX1_likeness 23 = .ok (.ireturn, 1) := by decide +kernel
set_option maxRecDepth 20000 in
theorem ggX1_seek_X0_likenessOf : GoodIn wsX1_seek wsX0_likenessOf := goodIn_r _ [10, 11, 12, 13, 9, 14, 15, 16, 17, 18, 19, 20, 21, 32, 33, 34, 35, 36, 37, 38, 39, 40, 41, 42] (by decide +kernel) (by decide +kernel)
set_option maxRecDepth 20000 in
theorem gX1_seek_X0_likenessOf : GoodIn wsX1_seek (wsV RX1 90 RX0 yX0_likenessOf wsX0_likenessOf) := goodIn_app (goodIn_of _ (by decide +kernel)) ggX1_seek_X0_likenessOf
set_option maxRecDepth 20000 in
theorem ggX1_seek_X0_startAnew : GoodIn wsX1_seek wsX0_startAnew := goodIn_r _ [25, 26, 27, 32, 33, 34, 35, 36, 37, 38, 39, 40, 41, 42] (by decide +kernel) (by decide +kernel)
set_option maxRecDepth 20000 in
theorem gX1_seek_X0_startAnew : GoodIn wsX1_seek (wsV RX1 93 RX0 yX0_startAnew wsX0_startAnew) := goodIn_app (goodIn_of _ (by decide +kernel)) ggX1_seek_X0_startAnew
theorem dX1_seek_0 : decode cX1_seek 0 = .ok (.iconst 0, 1) := by decide +kernel
theorem dX1_seek_1 : decode cX1_seek 1 = .ok (.istore_n 1, 1) := by decide +kernel
theorem dX1_seek_2 : decode cX1_seek 2 = .ok (.iconst 0, 1) := by decide +kernel
theorem dX1_seek_3 : decode cX1_seek 3 = .ok (.istore_n 2, 1) := by decide +kernel
theorem dX1_seek_4 : decode cX1_seek 4 = .ok (.iconst 0, 1) := by decide +kernel
theorem dX1_seek_5 : decode cX1_seek 5 = .ok (.istore_n 3, 1) := by decide +kernel
theorem dX1_seek_6 : decode cX1_seek 6 = .ok (.iload_n 3, 1) := by decide +kernel
theorem dX1_seek_7 : decode cX1_seek 7 = .ok (.bipush 15, 2) := by decide +kernel
theorem dX1_seek_9 : decode cX1_seek 9 = .ok (.if_icmp .gt 33, 3) := by decide +kernel
theorem dX1_seek_12 : decode cX1_seek 12 = .ok (.aload_n 0, 1) := by decide +kernel
theorem dX1_seek_13 : decode cX1_seek 13 = .ok (.getfield 12, 3) := by decide +kernel
theorem dX1_seek_16 : decode cX1_seek 16 = .ok (.iload_n 3, 1) := by decide +kernel
theorem dX1_seek_17 : decode cX1_seek 17 = .ok (.invokevirtual 90, 3) := by decide +kernel
theorem dX1_seek_20 : decode cX1_seek 20 = .ok (.invokestatic 81, 3) := by decide +kernel
theorem dX1_seek_23 : decode cX1_seek 23 = .ok (.istore 4, 2) := by decide +kernel
theorem dX1_seek_25 : decode cX1_seek 25 = .ok (.iload 4, 2) := by decide +kernel
theorem dX1_seek_27 : decode cX1_seek 27 = .ok (.iload_n 2, 1) := by decide +kernel
theorem dX1_seek_28 : decode cX1_seek 28 = .ok (.if_icmp .le 8, 3) := by decide +kernel
theorem dX1_seek_31 : decode cX1_seek 31 = .ok (.iload 4, 2) := by decide +kernel
theorem dX1_seek_33 : decode cX1_seek 33 = .ok (.istore_n 2, 1) := by decide +kernel
theorem dX1_seek_34 : decode cX1_seek 34 = .ok (.iload_n 3, 1) := by decide +kernel
theorem dX1_seek_35 : decode cX1_seek 35 = .ok (.istore_n 1, 1) := by decide +kernel
theorem dX1_seek_36 : decode cX1_seek 36 = .ok (.iinc 3 1, 3) := by decide +kernel
theorem dX1_seek_39 : decode cX1_seek 39 = .ok (.goto (-33), 3) := by decide +kernel
theorem dX1_seek_42 : decode cX1_seek 42 = .ok (.iload_n 2, 1) := by decide +kernel
theorem dX1_seek_43 : decode cX1_seek 43 = .ok (.ifCond .ne 6, 3) := by decide +kernel
theorem dX1_seek_46 : decode cX1_seek 46 = .ok (.bipush (-3), 2) := by decide +kernel
theorem dX1_seek_48 : decode cX1_seek 48 = .ok (.ireturn, 1) := by decide +kernel
theorem dX1_seek_49 : decode cX1_seek 49 = .ok (.aload_n 0, 1) := by decide +kernel
theorem dX1_seek_50 : decode cX1_seek 50 = .ok (.getfield 12, 3) := by decide +kernel
theorem dX1_seek_53 : decode cX1_seek 53 = .ok (.iload_n 1, 1) := by decide +kernel
theorem dX1_seek_54 : decode cX1_seek 54 = .ok (.invokevirtual 93, 3) := by decide +kernel
theorem dX1_seek_57 : decode cX1_seek 57 = .ok (.iload_n 1, 1) := by decide +kernel
theorem dX1_seek_58 : decode cX1_seek 58 = .ok (.ireturn, 1) := by decide +kernel
set_option maxRecDepth 20000 in
theorem ggX1_gain_X1_within : GoodIn wsX1_gain wsX1_within := goodIn_r _ [5] (by decide +kernel) (by decide +kernel)
set_option maxRecDepth 20000 in
theorem gX1_gain_X1_within : GoodIn wsX1_gain (va_wsS RX1 23 yX1_within wsX1_within) := goodIn_app (goodIn_of _ (by decide +kernel)) ggX1_gain_X1_within
set_option maxRecDepth 20000 in
theorem ggX1_gain_X0_nearSquares : GoodIn wsX1_gain wsX0_nearSquares := goodIn_r _ [10, 11, 12, 13, 9, 14, 15, 16, 33, 34, 35, 36, 37, 38, 39, 40, 41, 42, 43] (by decide +kernel) (by decide +kernel)
set_option maxRecDepth 20000 in
theorem gX1_gain_X0_nearSquares : GoodIn wsX1_gain (wsV RX1 96 RX0 yX0_nearSquares wsX0_nearSquares) := goodIn_app (goodIn_of _ (by decide +kernel)) ggX1_gain_X0_nearSquares
set_option maxRecDepth 20000 in
theorem ggX1_gain_X0_outSquares : GoodIn wsX1_gain wsX0_outSquares := goodIn_r _ [20, 21, 22, 23, 9, 24, 25, 16, 33, 34, 35, 36, 37, 38, 39, 40, 41, 42, 43] (by decide +kernel) (by decide +kernel)
set_option maxRecDepth 20000 in
theorem gX1_gain_X0_outSquares : GoodIn wsX1_gain (wsV RX1 100 RX0 yX0_outSquares wsX0_outSquares) := goodIn_app (goodIn_of _ (by decide +kernel)) ggX1_gain_X0_outSquares
set_option maxRecDepth 20000 in
theorem ggX1_gain_X1_greatestDivisor : GoodIn wsX1_gain wsX1_greatestDivisor := goodIn_r _ [28] (by decide +kernel) (by decide +kernel)
set_option maxRecDepth 20000 in
theorem gX1_gain_X1_greatestDivisor : GoodIn wsX1_gain (va_wsS RX1 103 yX1_greatestDivisor wsX1_greatestDivisor) := goodIn_app (goodIn_of _ (by decide +kernel)) ggX1_gain_X1_greatestDivisor
theorem dX1_gain_0 : decode cX1_gain 0 = .ok (.iload_n 1, 1) := by decide +kernel
theorem dX1_gain_1 : decode cX1_gain 1 = .ok (.iconst 0, 1) := by decide +kernel
theorem dX1_gain_2 : decode cX1_gain 2 = .ok (.iconst 1, 1) := by decide +kernel
theorem dX1_gain_3 : decode cX1_gain 3 = .ok (.invokestatic 23, 3) := by decide +kernel
theorem dX1_gain_6 : decode cX1_gain 6 = .ok (.ifCond .ne 6, 3) := by decide +kernel
theorem dX1_gain_9 : decode cX1_gain 9 = .ok (.bipush (-2), 2) := by decide +kernel
theorem dX1_gain_11 : decode cX1_gain 11 = .ok (.ireturn, 1) := by decide +kernel
theorem dX1_gain_12 : decode cX1_gain 12 = .ok (.aload_n 0, 1) := by decide +kernel
theorem dX1_gain_13 : decode cX1_gain 13 = .ok (.getfield 12, 3) := by decide +kernel
theorem dX1_gain_16 : decode cX1_gain 16 = .ok (.invokevirtual 96, 3) := by decide +kernel
theorem dX1_gain_19 : decode cX1_gain 19 = .ok (.istore_n 2, 1) := by decide +kernel
theorem dX1_gain_20 : decode cX1_gain 20 = .ok (.aload_n 0, 1) := by decide +kernel
theorem dX1_gain_21 : decode cX1_gain 21 = .ok (.getfield 12, 3) := by decide +kernel
theorem dX1_gain_24 : decode cX1_gain 24 = .ok (.invokevirtual 100, 3) := by decide +kernel
theorem dX1_gain_27 : decode cX1_gain 27 = .ok (.istore_n 3, 1) := by decide +kernel
theorem dX1_gain_28 : decode cX1_gain 28 = .ok (.iload_n 2, 1) := by decide +kernel
theorem dX1_gain_29 : decode cX1_gain 29 = .ok (.iload_n 3, 1) := by decide +kernel
theorem dX1_gain_30 : decode cX1_gain 30 = .ok (.invokestatic 103, 3) := by decide +kernel
theorem dX1_gain_33 : decode cX1_gain 33 = .ok (.istore 4, 2) := by decide +kernel
theorem dX1_gain_35 : decode cX1_gain 35 = .ok (.iload_n 3, 1) := by decide +kernel
theorem dX1_gain_36 : decode cX1_gain 36 = .ok (.ifCond .eq 8, 3) := by decide +kernel
theorem dX1_gain_39 : decode cX1_gain 39 = .ok (.iload 4, 2) := by decide +kernel
theorem dX1_gain_41 : decode cX1_gain 41 = .ok (.ifCond .ne 6, 3) := by decide +kernel
theorem dX1_gain_44 : decode cX1_gain 44 = .ok (.bipush (-3), 2) := by decide +kernel
theorem dX1_gain_46 : decode cX1_gain 46 = .ok (.ireturn, 1) := by decide +kernel
theorem dX1_gain_47 : decode cX1_gain 47 = .ok (.iload_n 1, 1) := by decide +kernel
theorem dX1_gain_48 : decode cX1_gain 48 = .ok (.ifCond .ne 7, 3) := by decide +kernel
theorem dX1_gain_51 : decode cX1_gain 51 = .ok (.iload_n 2, 1) := by decide +kernel
theorem dX1_gain_52 : decode cX1_gain 52 = .ok (.goto 4, 3) := by decide +kernel
theorem dX1_gain_55 : decode cX1_gain 55 = .ok (.iload_n 3, 1) := by decide +kernel
theorem dX1_gain_56 : decode cX1_gain 56 = .ok (.iload 4, 2) := by decide +kernel
theorem dX1_gain_58 : decode cX1_gain 58 = .ok (.idiv, 1) := by decide +kernel
theorem dX1_gain_59 : decode cX1_gain 59 = .ok (.ireturn, 1) := by decide +kernel
set_option maxRecDepth 20000 in
theorem ggX1_began_X1_within : GoodIn wsX1_began wsX1_within := goodIn_r _ [5] (by decide +kernel) (by decide +kernel)
set_option maxRecDepth 20000 in
theorem gX1_began_X1_within : GoodIn wsX1_began (va_wsS RX1 23 yX1_within wsX1_within) := goodIn_app (goodIn_of _ (by decide +kernel)) ggX1_began_X1_within
set_option maxRecDepth 20000 in
theorem ggX1_began_X0_beginning : GoodIn wsX1_began wsX0_beginning := goodIn_r _ [10, 11, 12, 13, 14, 9, 15, 16, 21, 22, 23, 24, 25, 26, 27, 28, 29, 30, 31] (by decide +kernel) (by decide +kernel)
set_option maxRecDepth 20000 in
theorem gX1_began_X0_beginning : GoodIn wsX1_began (wsV RX1 106 RX0 yX0_beginning wsX0_beginning) := goodIn_app (goodIn_of _ (by decide +kernel)) ggX1_began_X0_beginning
theorem dX1_began_0 : decode cX1_began 0 = .ok (.iload_n 2, 1) := by decide +kernel
theorem dX1_began_1 : decode cX1_began 1 = .ok (.iconst 0, 1) := by decide +kernel
theorem dX1_began_2 : decode cX1_began 2 = .ok (.iconst 1, 1) := by decide +kernel
theorem dX1_began_3 : decode cX1_began 3 = .ok (.invokestatic 23, 3) := by decide +kernel
theorem dX1_began_6 : decode cX1_began 6 = .ok (.ifCond .ne 6, 3) := by decide +kernel
theorem dX1_began_9 : decode cX1_began 9 = .ok (.bipush (-2), 2) := by decide +kernel
theorem dX1_began_11 : decode cX1_began 11 = .ok (.ireturn, 1) := by decide +kernel
theorem dX1_began_12 : decode cX1_began 12 = .ok (.aload_n 0, 1) := by decide +kernel
theorem dX1_began_13 : decode cX1_began 13 = .ok (.getfield 12, 3) := by decide +kernel
theorem dX1_began_16 : decode cX1_began 16 = .ok (.iload_n 1, 1) := by decide +kernel
theorem dX1_began_17 : decode cX1_began 17 = .ok (.iload_n 2, 1) := by decide +kernel
theorem dX1_began_18 : decode cX1_began 18 = .ok (.ifCond .ne 7, 3) := by decide +kernel
theorem dX1_began_21 : decode cX1_began 21 = .ok (.iconst 1, 1) := by decide +kernel
theorem dX1_began_22 : decode cX1_began 22 = .ok (.goto 4, 3) := by decide +kernel
theorem dX1_began_25 : decode cX1_began 25 = .ok (.iconst 2, 1) := by decide +kernel
theorem dX1_began_26 : decode cX1_began 26 = .ok (.invokevirtual 106, 3) := by decide +kernel
theorem dX1_began_29 : decode cX1_began 29 = .ok (.ireturn, 1) := by decide +kernel
set_option maxRecDepth 20000 in
theorem ggX1_image_X1_within : GoodIn wsX1_image wsX1_within := goodIn_r _ [7] (by decide +kernel) (by decide +kernel)
set_option maxRecDepth 20000 in
theorem gX1_image_X1_within : GoodIn wsX1_image (va_wsS RX1 23 yX1_within wsX1_within) := goodIn_app (goodIn_of _ (by decide +kernel)) ggX1_image_X1_within
set_option maxRecDepth 20000 in
theorem ggX1_image_X0_copyFrom : GoodIn wsX1_image wsX0_copyFrom := goodIn_r _ [12, 13, 14, 15, 16, 17, 18, 19, 20, 21, 22, 23, 24, 25, 26, 27, 32, 33, 34, 35, 36, 37, 38, 39, 40, 41, 42] (by decide +kernel) (by decide +kernel)
set_option maxRecDepth 20000 in
theorem gX1_image_X0_copyFrom : GoodIn wsX1_image (wsV RX1 86 RX0 yX0_copyFrom wsX0_copyFrom) := goodIn_app (goodIn_of _ (by decide +kernel)) ggX1_image_X0_copyFrom
theorem dX1_image_0 : decode cX1_image 0 = .ok (.iload_n 1, 1) := by decide +kernel
theorem dX1_image_1 : decode cX1_image 1 = .ok (.iconst 0, 1) := by decide +kernel
theorem dX1_image_2 : decode cX1_image 2 = .ok (.iconst 1, 1) := by decide +kernel
theorem dX1_image_3 : decode cX1_image 3 = .ok (.invokestatic 23, 3) := by decide +kernel
theorem dX1_image_6 : decode cX1_image 6 = .ok (.ifCond .ne 6, 3) := by decide +kernel
theorem dX1_image_9 : decode cX1_image 9 = .ok (.bipush (-2), 2) := by decide +kernel
theorem dX1_image_11 : decode cX1_image 11 = .ok (.ireturn, 1) := by decide +kernel
theorem dX1_image_12 : decode cX1_image 12 = .ok (.aload_n 0, 1) := by decide +kernel
theorem dX1_image_13 : decode cX1_image 13 = .ok (.getfield 19, 3) := by decide +kernel
theorem dX1_image_16 : decode cX1_image 16 = .ok (.iload_n 1, 1) := by decide +kernel
theorem dX1_image_17 : decode cX1_image 17 = .ok (.aaload, 1) := by decide +kernel
theorem dX1_image_18 : decode cX1_image 18 = .ok (.aload_n 0, 1) := by decide +kernel
theorem dX1_image_19 : decode cX1_image 19 = .ok (.getfield 12, 3) := by decide +kernel
theorem dX1_image_22 : decode cX1_image 22 = .ok (.invokevirtual 86, 3) := by decide +kernel
theorem dX1_image_25 : decode cX1_image 25 = .ok (.aload_n 0, 1) := by decide +kernel
theorem dX1_image_26 : decode cX1_image 26 = .ok (.dup, 1) := by decide +kernel
theorem dX1_image_27 : decode cX1_image 27 = .ok (.getfield 109, 3) := by decide +kernel
theorem dX1_image_30 : decode cX1_image 30 = .ok (.iconst 1, 1) := by decide +kernel
theorem dX1_image_31 : decode cX1_image 31 = .ok (.iload_n 1, 1) := by decide +kernel
theorem dX1_image_32 : decode cX1_image 32 = .ok (.ishl, 1) := by decide +kernel
theorem dX1_image_33 : decode cX1_image 33 = .ok (.ior, 1) := by decide +kernel
theorem dX1_image_34 : decode cX1_image 34 = .ok (.putfield 109, 3) := by decide +kernel
theorem dX1_image_37 : decode cX1_image 37 = .ok (.iconst 1, 1) := by decide +kernel
theorem dX1_image_38 : decode cX1_image 38 = .ok (.ireturn, 1) := by decide +kernel
set_option maxRecDepth 20000 in
theorem ggX1_restore_X1_within : GoodIn wsX1_restore wsX1_within := goodIn_r _ [7] (by decide +kernel) (by decide +kernel)
set_option maxRecDepth 20000 in
theorem gX1_restore_X1_within : GoodIn wsX1_restore (va_wsS RX1 23 yX1_within wsX1_within) := goodIn_app (goodIn_of _ (by decide +kernel)) ggX1_restore_X1_within
set_option maxRecDepth 20000 in
theorem ggX1_restore_X0_copyFrom : GoodIn wsX1_restore wsX0_copyFrom := goodIn_r _ [12, 13, 14, 15, 16, 17, 18, 19, 20, 21, 22, 23, 24, 25, 26, 27, 32, 33, 34, 35, 36, 37, 38, 39, 40, 41, 42] (by decide +kernel) (by decide +kernel)
set_option maxRecDepth 20000 in
theorem gX1_restore_X0_copyFrom : GoodIn wsX1_restore (wsV RX1 86 RX0 yX0_copyFrom wsX0_copyFrom) := goodIn_app (goodIn_of _ (by decide +kernel)) ggX1_restore_X0_copyFrom
theorem dX1_restore_0 : decode cX1_restore 0 = .ok (.iload_n 1, 1) := by decide +kernel
theorem dX1_restore_1 : decode cX1_restore 1 = .ok (.iconst 0, 1) := by decide +kernel
theorem dX1_restore_2 : decode cX1_restore 2 = .ok (.iconst 1, 1) := by decide +kernel
theorem dX1_restore_3 : decode cX1_restore 3 = .ok (.invokestatic 23, 3) := by decide +kernel
theorem dX1_restore_6 : decode cX1_restore 6 = .ok (.ifCond .ne 6, 3) := by decide +kernel
theorem dX1_restore_9 : decode cX1_restore 9 = .ok (.bipush (-2), 2) := by decide +kernel
theorem dX1_restore_11 : decode cX1_restore 11 = .ok (.ireturn, 1) := by decide +kernel
theorem dX1_restore_12 : decode cX1_restore 12 = .ok (.aload_n 0, 1) := by decide +kernel
theorem dX1_restore_13 : decode cX1_restore 13 = .ok (.getfield 109, 3) := by decide +kernel
theorem dX1_restore_16 : decode cX1_restore 16 = .ok (.iconst 1, 1) := by decide +kernel
theorem dX1_restore_17 : decode cX1_restore 17 = .ok (.iload_n 1, 1) := by decide +kernel
theorem dX1_restore_18 : decode cX1_restore 18 = .ok (.ishl, 1) := by decide +kernel
theorem dX1_restore_19 : decode cX1_restore 19 = .ok (.iand, 1) := by decide +kernel
theorem dX1_restore_20 : decode cX1_restore 20 = .ok (.ifCond .ne 6, 3) := by decide +kernel
theorem dX1_restore_23 : decode cX1_restore 23 = .ok (.bipush (-3), 2) := by decide +kernel
theorem dX1_restore_25 : decode cX1_restore 25 = .ok (.ireturn, 1) := by decide +kernel
theorem dX1_restore_26 : decode cX1_restore 26 = .ok (.aload_n 0, 1) := by decide +kernel
theorem dX1_restore_27 : decode cX1_restore 27 = .ok (.getfield 12, 3) := by decide +kernel
theorem dX1_restore_30 : decode cX1_restore 30 = .ok (.aload_n 0, 1) := by decide +kernel
theorem dX1_restore_31 : decode cX1_restore 31 = .ok (.getfield 19, 3) := by decide +kernel
theorem dX1_restore_34 : decode cX1_restore 34 = .ok (.iload_n 1, 1) := by decide +kernel
theorem dX1_restore_35 : decode cX1_restore 35 = .ok (.aaload, 1) := by decide +kernel
theorem dX1_restore_36 : decode cX1_restore 36 = .ok (.invokevirtual 86, 3) := by decide +kernel
theorem dX1_restore_39 : decode cX1_restore 39 = .ok (.iconst 1, 1) := by decide +kernel
theorem dX1_restore_40 : decode cX1_restore 40 = .ok (.ireturn, 1) := by decide +kernel
set_option maxRecDepth 20000 in
theorem ggX1_count_X1_within : GoodIn wsX1_count wsX1_within := goodIn_r _ [11] (by decide +kernel) (by decide +kernel)
set_option maxRecDepth 20000 in
theorem gX1_count_X1_within : GoodIn wsX1_count (va_wsS RX1 23 yX1_within wsX1_within) := goodIn_app (goodIn_of _ (by decide +kernel)) ggX1_count_X1_within
set_option maxRecDepth 20000 in
theorem ggX1_count_X0_tapSizes : GoodIn wsX1_count wsX0_tapSizes := goodIn_r _ [16, 17, 18, 19, 20, 21, 26, 27, 28, 29, 30, 31, 32, 33, 34, 35, 36] (by decide +kernel) (by decide +kernel)
set_option maxRecDepth 20000 in
theorem gX1_count_X0_tapSizes : GoodIn wsX1_count (wsV RX1 118 RX0 yX0_tapSizes wsX0_tapSizes) := goodIn_app (goodIn_of _ (by decide +kernel)) ggX1_count_X0_tapSizes
theorem dX1_count_0 : decode cX1_count 0 = .ok (.iload_n 1, 1) := by decide +kernel
theorem dX1_count_1 : decode cX1_count 1 = .ok (.bipush 10, 2) := by decide +kernel
theorem dX1_count_3 : decode cX1_count 3 = .ok (.bipush 14, 2) := by decide +kernel
theorem dX1_count_5 : decode cX1_count 5 = .ok (.invokestatic 23, 3) := by decide +kernel
theorem dX1_count_8 : decode cX1_count 8 = .ok (.ifCond .eq 16, 3) := by decide +kernel
theorem dX1_count_11 : decode cX1_count 11 = .ok (.aload_n 0, 1) := by decide +kernel
theorem dX1_count_12 : decode cX1_count 12 = .ok (.getfield 12, 3) := by decide +kernel
theorem dX1_count_15 : decode cX1_count 15 = .ok (.getfield 31, 3) := by decide +kernel
theorem dX1_count_18 : decode cX1_count 18 = .ok (.iload_n 1, 1) := by decide +kernel
theorem dX1_count_19 : decode cX1_count 19 = .ok (.bipush 10, 2) := by decide +kernel
theorem dX1_count_21 : decode cX1_count 21 = .ok (.isub, 1) := by decide +kernel
theorem dX1_count_22 : decode cX1_count 22 = .ok (.iaload, 1) := by decide +kernel
theorem dX1_count_23 : decode cX1_count 23 = .ok (.ireturn, 1) := by decide +kernel
theorem dX1_count_24 : decode cX1_count 24 = .ok (.iload_n 1, 1) := by decide +kernel
theorem dX1_count_25 : decode cX1_count 25 = .ok (.tableswitch 87 0 5 #[39, 47, 55, 63, 71, 82], 39) := by decide +kernel
theorem dX1_count_64 : decode cX1_count 64 = .ok (.aload_n 0, 1) := by decide +kernel
theorem dX1_count_65 : decode cX1_count 65 = .ok (.getfield 12, 3) := by decide +kernel
theorem dX1_count_68 : decode cX1_count 68 = .ok (.getfield 46, 3) := by decide +kernel
theorem dX1_count_71 : decode cX1_count 71 = .ok (.ireturn, 1) := by decide +kernel
theorem dX1_count_72 : decode cX1_count 72 = .ok (.aload_n 0, 1) := by decide +kernel
theorem dX1_count_73 : decode cX1_count 73 = .ok (.getfield 12, 3) := by decide +kernel
theorem dX1_count_76 : decode cX1_count 76 = .ok (.getfield 112, 3) := by decide +kernel
theorem dX1_count_79 : decode cX1_count 79 = .ok (.ireturn, 1) := by decide +kernel
theorem dX1_count_80 : decode cX1_count 80 = .ok (.aload_n 0, 1) := by decide +kernel
theorem dX1_count_81 : decode cX1_count 81 = .ok (.getfield 12, 3) := by decide +kernel
theorem dX1_count_84 : decode cX1_count 84 = .ok (.getfield 115, 3) := by decide +kernel
theorem dX1_count_87 : decode cX1_count 87 = .ok (.ireturn, 1) := by decide +kernel
theorem dX1_count_88 : decode cX1_count 88 = .ok (.aload_n 0, 1) := by decide +kernel
theorem dX1_count_89 : decode cX1_count 89 = .ok (.getfield 12, 3) := by decide +kernel
theorem dX1_count_92 : decode cX1_count 92 = .ok (.invokevirtual 118, 3) := by decide +kernel
theorem dX1_count_95 : decode cX1_count 95 = .ok (.ireturn, 1) := by decide +kernel
theorem dX1_count_96 : decode cX1_count 96 = .ok (.aload_n 0, 1) := by decide +kernel
theorem dX1_count_97 : decode cX1_count 97 = .ok (.getfield 12, 3) := by decide +kernel
theorem dX1_count_100 : decode cX1_count 100 = .ok (.getfield 64, 3) := by decide +kernel
theorem dX1_count_103 : decode cX1_count 103 = .ok (.bipush 8, 2) := by decide +kernel
theorem dX1_count_105 : decode cX1_count 105 = .ok (.iaload, 1) := by decide +kernel
theorem dX1_count_106 : decode cX1_count 106 = .ok (.ireturn, 1) := by decide +kernel
theorem dX1_count_107 : decode cX1_count 107 = .ok (.aload_n 0, 1) := by decide +kernel
theorem dX1_count_108 : decode cX1_count 108 = .ok (.getfield 109, 3) := by decide +kernel
theorem dX1_count_111 : decode cX1_count 111 = .ok (.ireturn, 1) := by decide +kernel
theorem dX1_count_112 : decode cX1_count 112 = .ok (.bipush (-2), 2) := by decide +kernel
theorem dX1_count_114 : decode cX1_count 114 = .ok (.ireturn, 1) := by decide +kernel
theorem dX1_within_0 : decode cX1_within 0 = .ok (.iload_n 1, 1) := by decide +kernel
theorem dX1_within_1 : decode cX1_within 1 = .ok (.iload_n 0, 1) := by decide +kernel
theorem dX1_within_2 : decode cX1_within 2 = .ok (.if_icmp .gt 12, 3) := by decide +kernel
theorem dX1_within_5 : decode cX1_within 5 = .ok (.iload_n 0, 1) := by decide +kernel
theorem dX1_within_6 : decode cX1_within 6 = .ok (.iload_n 2, 1) := by decide +kernel
theorem dX1_within_7 : decode cX1_within 7 = .ok (.if_icmp .gt 7, 3) := by decide +kernel
theorem dX1_within_10 : decode cX1_within 10 = .ok (.iconst 1, 1) := by decide +kernel
theorem dX1_within_11 : decode cX1_within 11 = .ok (.goto 4, 3) := by decide +kernel
theorem dX1_within_14 : decode cX1_within 14 = .ok (.iconst 0, 1) := by decide +kernel
theorem dX1_within_15 : decode cX1_within 15 = .ok (.ireturn, 1) := by decide +kernel
theorem dX1_limited_0 : decode cX1_limited 0 = .ok (.iload_n 1, 1) := by decide +kernel
theorem dX1_limited_1 : decode cX1_limited 1 = .ok (.iload_n 2, 1) := by decide +kernel
theorem dX1_limited_2 : decode cX1_limited 2 = .ok (.iload_n 0, 1) := by decide +kernel
theorem dX1_limited_3 : decode cX1_limited 3 = .ok (.invokestatic 121, 3) := by decide +kernel
theorem dX1_limited_6 : decode cX1_limited 6 = .ok (.invokestatic 124, 3) := by decide +kernel
theorem dX1_limited_9 : decode cX1_limited 9 = .ok (.ireturn, 1) := by decide +kernel
set_option maxRecDepth 20000 in
theorem ggX1_startsRun_X1_within : GoodIn wsX1_startsRun wsX1_within := goodIn_r _ [5] (by decide +kernel) (by decide +kernel)
set_option maxRecDepth 20000 in
theorem gX1_startsRun_X1_within : GoodIn wsX1_startsRun (va_wsS RX1 23 yX1_within wsX1_within) := goodIn_app (goodIn_of _ (by decide +kernel)) ggX1_startsRun_X1_within
theorem dX1_startsRun_0 : decode cX1_startsRun 0 = .ok (.iload_n 0, 1) := by decide +kernel
theorem dX1_startsRun_1 : decode cX1_startsRun 1 = .ok (.iconst 0, 1) := by decide +kernel
theorem dX1_startsRun_2 : decode cX1_startsRun 2 = .ok (.ldc 127, 2) := by decide +kernel
theorem dX1_startsRun_4 : decode cX1_startsRun 4 = .ok (.invokestatic 23, 3) := by decide +kernel
theorem dX1_startsRun_7 : decode cX1_startsRun 7 = .ok (.ifCond .eq 18, 3) := by decide +kernel
theorem dX1_startsRun_10 : decode cX1_startsRun 10 = .ok (.iload_n 1, 1) := by decide +kernel
theorem dX1_startsRun_11 : decode cX1_startsRun 11 = .ok (.iconst 0, 1) := by decide +kernel
theorem dX1_startsRun_12 : decode cX1_startsRun 12 = .ok (.sipush 1000, 3) := by decide +kernel
theorem dX1_startsRun_15 : decode cX1_startsRun 15 = .ok (.invokestatic 23, 3) := by decide +kernel
theorem dX1_startsRun_18 : decode cX1_startsRun 18 = .ok (.ifCond .eq 7, 3) := by decide +kernel
theorem dX1_startsRun_21 : decode cX1_startsRun 21 = .ok (.iconst 1, 1) := by decide +kernel
theorem dX1_startsRun_22 : decode cX1_startsRun 22 = .ok (.goto 4, 3) := by decide +kernel
theorem dX1_startsRun_25 : decode cX1_startsRun 25 = .ok (.iconst 0, 1) := by decide +kernel
theorem dX1_startsRun_26 : decode cX1_startsRun 26 = .ok (.ireturn, 1) := by decide +kernel
theorem dX1_nextSeed_0 : decode cX1_nextSeed 0 = .ok (.bipush 75, 2) := by decide +kernel
theorem dX1_nextSeed_2 : decode cX1_nextSeed 2 = .ok (.iload_n 0, 1) := by decide +kernel
theorem dX1_nextSeed_3 : decode cX1_nextSeed 3 = .ok (.imul, 1) := by decide +kernel
theorem dX1_nextSeed_4 : decode cX1_nextSeed 4 = .ok (.bipush 74, 2) := by decide +kernel
theorem dX1_nextSeed_6 : decode cX1_nextSeed 6 = .ok (.iadd, 1) := by decide +kernel
theorem dX1_nextSeed_7 : decode cX1_nextSeed 7 = .ok (.ldc 128, 2) := by decide +kernel
theorem dX1_nextSeed_9 : decode cX1_nextSeed 9 = .ok (.irem, 1) := by decide +kernel
theorem dX1_nextSeed_10 : decode cX1_nextSeed 10 = .ok (.ireturn, 1) := by decide +kernel
theorem dX1_centred_0 : decode cX1_centred 0 = .ok (.iload_n 0, 1) := by decide +kernel
theorem dX1_centred_1 : decode cX1_centred 1 = .ok (.iconst 2, 1) := by decide +kernel
theorem dX1_centred_2 : decode cX1_centred 2 = .ok (.iload_n 1, 1) := by decide +kernel
theorem dX1_centred_3 : decode cX1_centred 3 = .ok (.imul, 1) := by decide +kernel
theorem dX1_centred_4 : decode cX1_centred 4 = .ok (.iconst 1, 1) := by decide +kernel
theorem dX1_centred_5 : decode cX1_centred 5 = .ok (.iadd, 1) := by decide +kernel
theorem dX1_centred_6 : decode cX1_centred 6 = .ok (.irem, 1) := by decide +kernel
theorem dX1_centred_7 : decode cX1_centred 7 = .ok (.iload_n 1, 1) := by decide +kernel
theorem dX1_centred_8 : decode cX1_centred 8 = .ok (.isub, 1) := by decide +kernel
theorem dX1_centred_9 : decode cX1_centred 9 = .ok (.ireturn, 1) := by decide +kernel
theorem dX1_greatestDivisor_0 : decode cX1_greatestDivisor 0 = .ok (.iload_n 0, 1) := by decide +kernel
theorem dX1_greatestDivisor_1 : decode cX1_greatestDivisor 1 = .ok (.istore_n 2, 1) := by decide +kernel
theorem dX1_greatestDivisor_2 : decode cX1_greatestDivisor 2 = .ok (.iload_n 1, 1) := by decide +kernel
theorem dX1_greatestDivisor_3 : decode cX1_greatestDivisor 3 = .ok (.istore_n 3, 1) := by decide +kernel
theorem dX1_greatestDivisor_4 : decode cX1_greatestDivisor 4 = .ok (.iconst 0, 1) := by decide +kernel
theorem dX1_greatestDivisor_5 : decode cX1_greatestDivisor 5 = .ok (.istore 4, 2) := by decide +kernel
theorem dX1_greatestDivisor_7 : decode cX1_greatestDivisor 7 = .ok (.iload 4, 2) := by decide +kernel
theorem dX1_greatestDivisor_9 : decode cX1_greatestDivisor 9 = .ok (.bipush 64, 2) := by decide +kernel
theorem dX1_greatestDivisor_11 : decode cX1_greatestDivisor 11 = .ok (.if_icmp .ge 23, 3) := by decide +kernel
theorem dX1_greatestDivisor_14 : decode cX1_greatestDivisor 14 = .ok (.iload_n 3, 1) := by decide +kernel
theorem dX1_greatestDivisor_15 : decode cX1_greatestDivisor 15 = .ok (.ifCond .eq 19, 3) := by decide +kernel
theorem dX1_greatestDivisor_18 : decode cX1_greatestDivisor 18 = .ok (.iload_n 2, 1) := by decide +kernel
theorem dX1_greatestDivisor_19 : decode cX1_greatestDivisor 19 = .ok (.iload_n 3, 1) := by decide +kernel
theorem dX1_greatestDivisor_20 : decode cX1_greatestDivisor 20 = .ok (.irem, 1) := by decide +kernel
theorem dX1_greatestDivisor_21 : decode cX1_greatestDivisor 21 = .ok (.istore 5, 2) := by decide +kernel
theorem dX1_greatestDivisor_23 : decode cX1_greatestDivisor 23 = .ok (.iload_n 3, 1) := by decide +kernel
theorem dX1_greatestDivisor_24 : decode cX1_greatestDivisor 24 = .ok (.istore_n 2, 1) := by decide +kernel
theorem dX1_greatestDivisor_25 : decode cX1_greatestDivisor 25 = .ok (.iload 5, 2) := by decide +kernel
theorem dX1_greatestDivisor_27 : decode cX1_greatestDivisor 27 = .ok (.istore_n 3, 1) := by decide +kernel
theorem dX1_greatestDivisor_28 : decode cX1_greatestDivisor 28 = .ok (.iinc 4 1, 3) := by decide +kernel
theorem dX1_greatestDivisor_31 : decode cX1_greatestDivisor 31 = .ok (.goto (-24), 3) := by decide +kernel
theorem dX1_greatestDivisor_34 : decode cX1_greatestDivisor 34 = .ok (.iload_n 2, 1) := by decide +kernel
theorem dX1_greatestDivisor_35 : decode cX1_greatestDivisor 35 = .ok (.ireturn, 1) := by decide +kernel
