theorem dX2_init_0 : decode cX2_init 0 = .ok (.aload_n 0, 1) := by decide +kernel
theorem dX2_init_1 : decode cX2_init 1 = .ok (.invokespecial 1, 3) := by decide +kernel
theorem dX2_init_4 : decode cX2_init 4 = .ok (.aload_n 0, 1) := by decide +kernel
theorem dX2_init_5 : decode cX2_init 5 = .ok (.sipush 555, 3) := by decide +kernel
theorem dX2_init_8 : decode cX2_init 8 = .ok (.newarray .int, 2) := by decide +kernel
theorem dX2_init_10 : decode cX2_init 10 = .ok (.putfield 7, 3) := by decide +kernel
theorem dX2_init_13 : decode cX2_init 13 = .ok (.aload_n 0, 1) := by decide +kernel
theorem dX2_init_14 : decode cX2_init 14 = .ok (.sipush 1665, 3) := by decide +kernel
theorem dX2_init_17 : decode cX2_init 17 = .ok (.newarray .int, 2) := by decide +kernel
theorem dX2_init_19 : decode cX2_init 19 = .ok (.putfield 13, 3) := by decide +kernel
theorem dX2_init_22 : decode cX2_init 22 = .ok (.aload_n 0, 1) := by decide +kernel
theorem dX2_init_23 : decode cX2_init 23 = .ok (.iconst 2, 1) := by decide +kernel
theorem dX2_init_24 : decode cX2_init 24 = .ok (.newarray .boolean, 2) := by decide +kernel
theorem dX2_init_26 : decode cX2_init 26 = .ok (.putfield 16, 3) := by decide +kernel
theorem dX2_init_29 : decode cX2_init 29 = .ok (.aload_n 0, 1) := by decide +kernel
theorem dX2_init_30 : decode cX2_init 30 = .ok (.getfield 7, 3) := by decide +kernel
theorem dX2_init_33 : decode cX2_init 33 = .ok (.iconst 0, 1) := by decide +kernel
theorem dX2_init_34 : decode cX2_init 34 = .ok (.sipush 512, 3) := by decide +kernel
theorem dX2_init_37 : decode cX2_init 37 = .ok (.iastore, 1) := by decide +kernel
theorem dX2_init_38 : decode cX2_init 38 = .ok (.aload_n 0, 1) := by decide +kernel
theorem dX2_init_39 : decode cX2_init 39 = .ok (.getfield 7, 3) := by decide +kernel
theorem dX2_init_42 : decode cX2_init 42 = .ok (.iconst 1, 1) := by decide +kernel
theorem dX2_init_43 : decode cX2_init 43 = .ok (.iconst 5, 1) := by decide +kernel
theorem dX2_init_44 : decode cX2_init 44 = .ok (.iastore, 1) := by decide +kernel
theorem dX2_init_45 : decode cX2_init 45 = .ok (.return_, 1) := by decide +kernel
theorem dX2_in_0 : decode cX2_in 0 = .ok (.iload_n 0, 1) := by decide +kernel
theorem dX2_in_1 : decode cX2_in 1 = .ok (.iload_n 1, 1) := by decide +kernel
theorem dX2_in_2 : decode cX2_in 2 = .ok (.if_icmp .lt 12, 3) := by decide +kernel
theorem dX2_in_5 : decode cX2_in 5 = .ok (.iload_n 0, 1) := by decide +kernel
theorem dX2_in_6 : decode cX2_in 6 = .ok (.iload_n 2, 1) := by decide +kernel
theorem dX2_in_7 : decode cX2_in 7 = .ok (.if_icmp .gt 7, 3) := by decide +kernel
theorem dX2_in_10 : decode cX2_in 10 = .ok (.iconst 1, 1) := by decide +kernel
theorem dX2_in_11 : decode cX2_in 11 = .ok (.goto 4, 3) := by decide +kernel
theorem dX2_in_14 : decode cX2_in 14 = .ok (.iconst 0, 1) := by decide +kernel
theorem dX2_in_15 : decode cX2_in 15 = .ok (.ireturn, 1) := by decide +kernel
theorem dX2_size_0 : decode cX2_size 0 = .ok (.iload_n 0, 1) := by decide +kernel
theorem dX2_size_1 : decode cX2_size 1 = .ok (.ifCond .ge 8, 3) := by decide +kernel
theorem dX2_size_4 : decode cX2_size 4 = .ok (.iload_n 0, 1) := by decide +kernel
theorem dX2_size_5 : decode cX2_size 5 = .ok (.ineg, 1) := by decide +kernel
theorem dX2_size_6 : decode cX2_size 6 = .ok (.goto 4, 3) := by decide +kernel
theorem dX2_size_9 : decode cX2_size 9 = .ok (.iload_n 0, 1) := by decide +kernel
theorem dX2_size_10 : decode cX2_size 10 = .ok (.ireturn, 1) := by decide +kernel
theorem dX2_within_0 : decode cX2_within 0 = .ok (.iload_n 0, 1) := by decide +kernel
theorem dX2_within_1 : decode cX2_within 1 = .ok (.iload_n 1, 1) := by decide +kernel
theorem dX2_within_2 : decode cX2_within 2 = .ok (.if_icmp .ge 7, 3) := by decide +kernel
theorem dX2_within_5 : decode cX2_within 5 = .ok (.iload_n 1, 1) := by decide +kernel
theorem dX2_within_6 : decode cX2_within 6 = .ok (.goto 13, 3) := by decide +kernel
theorem dX2_within_9 : decode cX2_within 9 = .ok (.iload_n 0, 1) := by decide +kernel
theorem dX2_within_10 : decode cX2_within 10 = .ok (.iload_n 2, 1) := by decide +kernel
theorem dX2_within_11 : decode cX2_within 11 = .ok (.if_icmp .le 7, 3) := by decide +kernel
theorem dX2_within_14 : decode cX2_within 14 = .ok (.iload_n 2, 1) := by decide +kernel
theorem dX2_within_15 : decode cX2_within 15 = .ok (.goto 4, 3) := by decide +kernel
theorem dX2_within_18 : decode cX2_within 18 = .ok (.iload_n 0, 1) := by decide +kernel
theorem dX2_within_19 : decode cX2_within 19 = .ok (.ireturn, 1) := by decide +kernel
theorem dX2_most_0 : decode cX2_most 0 = .ok (.iload_n 0, 1) := by decide +kernel
theorem dX2_most_1 : decode cX2_most 1 = .ok (.tableswitch 45 0 3 #[31, 35, 38, 42], 31) := by decide +kernel
theorem dX2_most_32 : decode cX2_most 32 = .ok (.sipush 1024, 3) := by decide +kernel
theorem dX2_most_35 : decode cX2_most 35 = .ok (.ireturn, 1) := by decide +kernel
theorem dX2_most_36 : decode cX2_most 36 = .ok (.bipush 20, 2) := by decide +kernel
theorem dX2_most_38 : decode cX2_most 38 = .ok (.ireturn, 1) := by decide +kernel
theorem dX2_most_39 : decode cX2_most 39 = .ok (.sipush 500, 3) := by decide +kernel
theorem dX2_most_42 : decode cX2_most 42 = .ok (.ireturn, 1) := by decide +kernel
theorem dX2_most_43 : decode cX2_most 43 = .ok (.bipush 50, 2) := by decide +kernel
theorem dX2_most_45 : decode cX2_most 45 = .ok (.ireturn, 1) := by decide +kernel
theorem dX2_most_46 : decode cX2_most 46 = .ok (.bipush 15, 2) := by decide +kernel
theorem dX2_most_48 : decode cX2_most 48 = .ok (.ireturn, 1) := by decide +kernel
set_option maxRecDepth 20000 in
theorem ggX2_rule_X2_in : GoodIn wsX2_rule wsX2_in := goodIn_r _ [5] (by decide +kernel) (by decide +kernel)
set_option maxRecDepth 20000 in
theorem gX2_rule_X2_in : GoodIn wsX2_rule (va_wsS RX2 20 yX2_in wsX2_in) := goodIn_app (goodIn_of _ (by decide +kernel)) ggX2_rule_X2_in
set_option maxRecDepth 20000 in
theorem ggX2_rule_X2_most : GoodIn wsX2_rule wsX2_most := goodIn_r _ [8] (by decide +kernel) (by decide +kernel)
set_option maxRecDepth 20000 in
theorem gX2_rule_X2_most : GoodIn wsX2_rule (va_wsS RX2 24 yX2_most wsX2_most) := goodIn_app (goodIn_of _ (by decide +kernel)) ggX2_rule_X2_most
theorem dX2_rule_0 : decode cX2_rule 0 = .ok (.iload_n 1, 1) := by decide +kernel
theorem dX2_rule_1 : decode cX2_rule 1 = .ok (.iconst 0, 1) := by decide +kernel
theorem dX2_rule_2 : decode cX2_rule 2 = .ok (.iconst 4, 1) := by decide +kernel
theorem dX2_rule_3 : decode cX2_rule 3 = .ok (.invokestatic 20, 3) := by decide +kernel
theorem dX2_rule_6 : decode cX2_rule 6 = .ok (.ifCond .eq 15, 3) := by decide +kernel
theorem dX2_rule_9 : decode cX2_rule 9 = .ok (.iload_n 2, 1) := by decide +kernel
theorem dX2_rule_10 : decode cX2_rule 10 = .ok (.iconst 0, 1) := by decide +kernel
theorem dX2_rule_11 : decode cX2_rule 11 = .ok (.iload_n 1, 1) := by decide +kernel
theorem dX2_rule_12 : decode cX2_rule 12 = .ok (.invokestatic 24, 3) := by decide +kernel
theorem dX2_rule_15 : decode cX2_rule 15 = .ok (.invokestatic 20, 3) := by decide +kernel
theorem dX2_rule_18 : decode cX2_rule 18 = .ok (.ifCond .ne 6, 3) := by decide +kernel
theorem dX2_rule_21 : decode cX2_rule 21 = .ok (.bipush (-2), 2) := by decide +kernel
theorem dX2_rule_23 : decode cX2_rule 23 = .ok (.ireturn, 1) := by decide +kernel
theorem dX2_rule_24 : decode cX2_rule 24 = .ok (.aload_n 0, 1) := by decide +kernel
theorem dX2_rule_25 : decode cX2_rule 25 = .ok (.getfield 7, 3) := by decide +kernel
theorem dX2_rule_28 : decode cX2_rule 28 = .ok (.iconst 0, 1) := by decide +kernel
theorem dX2_rule_29 : decode cX2_rule 29 = .ok (.iload_n 1, 1) := by decide +kernel
theorem dX2_rule_30 : decode cX2_rule 30 = .ok (.iadd, 1) := by decide +kernel
theorem dX2_rule_31 : decode cX2_rule 31 = .ok (.iaload, 1) := by decide +kernel
theorem dX2_rule_32 : decode cX2_rule 32 = .ok (.istore_n 3, 1) := by decide +kernel
theorem dX2_rule_33 : decode cX2_rule 33 = .ok (.aload_n 0, 1) := by decide +kernel
theorem dX2_rule_34 : decode cX2_rule 34 = .ok (.getfield 7, 3) := by decide +kernel
theorem dX2_rule_37 : decode cX2_rule 37 = .ok (.iconst 0, 1) := by decide +kernel
theorem dX2_rule_38 : decode cX2_rule 38 = .ok (.iload_n 1, 1) := by decide +kernel
theorem dX2_rule_39 : decode cX2_rule 39 = .ok (.iadd, 1) := by decide +kernel
theorem dX2_rule_40 : decode cX2_rule 40 = .ok (.iload_n 2, 1) := by decide +kernel
theorem dX2_rule_41 : decode cX2_rule 41 = .ok (.iastore, 1) := by decide +kernel
theorem dX2_rule_42 : decode cX2_rule 42 = .ok (.iload_n 3, 1) := by decide +kernel
theorem dX2_rule_43 : decode cX2_rule 43 = .ok (.ireturn, 1) := by decide +kernel
theorem dX2_shift_0 : decode cX2_shift 0 = .ok (.iload_n 2, 1) := by decide +kernel
theorem dX2_shift_1 : decode cX2_shift 1 = .ok (.iconst 1, 1) := by decide +kernel
theorem dX2_shift_2 : decode cX2_shift 2 = .ok (.isub, 1) := by decide +kernel
theorem dX2_shift_3 : decode cX2_shift 3 = .ok (.istore 4, 2) := by decide +kernel
theorem dX2_shift_5 : decode cX2_shift 5 = .ok (.iload 4, 2) := by decide +kernel
theorem dX2_shift_7 : decode cX2_shift 7 = .ok (.ifCond .le 29, 3) := by decide +kernel
theorem dX2_shift_10 : decode cX2_shift 10 = .ok (.aload_n 0, 1) := by decide +kernel
theorem dX2_shift_11 : decode cX2_shift 11 = .ok (.getfield 7, 3) := by decide +kernel
theorem dX2_shift_14 : decode cX2_shift 14 = .ok (.iload_n 1, 1) := by decide +kernel
theorem dX2_shift_15 : decode cX2_shift 15 = .ok (.iload 4, 2) := by decide +kernel
theorem dX2_shift_17 : decode cX2_shift 17 = .ok (.iadd, 1) := by decide +kernel
theorem dX2_shift_18 : decode cX2_shift 18 = .ok (.aload_n 0, 1) := by decide +kernel
theorem dX2_shift_19 : decode cX2_shift 19 = .ok (.getfield 7, 3) := by decide +kernel
theorem dX2_shift_22 : decode cX2_shift 22 = .ok (.iload_n 1, 1) := by decide +kernel
theorem dX2_shift_23 : decode cX2_shift 23 = .ok (.iload 4, 2) := by decide +kernel
theorem dX2_shift_25 : decode cX2_shift 25 = .ok (.iadd, 1) := by decide +kernel
theorem dX2_shift_26 : decode cX2_shift 26 = .ok (.iconst 1, 1) := by decide +kernel
theorem dX2_shift_27 : decode cX2_shift 27 = .ok (.isub, 1) := by decide +kernel
theorem dX2_shift_28 : decode cX2_shift 28 = .ok (.iaload, 1) := by decide +kernel
theorem dX2_shift_29 : decode cX2_shift 29 = .ok (.iastore, 1) := by decide +kernel
theorem dX2_shift_30 : decode cX2_shift 30 = .ok (.iinc 4 (-1), 3) := by decide +kernel
theorem dX2_shift_33 : decode cX2_shift 33 = .ok (.goto (-28), 3) := by decide +kernel
theorem dX2_shift_36 : decode cX2_shift 36 = .ok (.aload_n 0, 1) := by decide +kernel
theorem dX2_shift_37 : decode cX2_shift 37 = .ok (.getfield 7, 3) := by decide +kernel
theorem dX2_shift_40 : decode cX2_shift 40 = .ok (.iload_n 1, 1) := by decide +kernel
theorem dX2_shift_41 : decode cX2_shift 41 = .ok (.iload_n 3, 1) := by decide +kernel
theorem dX2_shift_42 : decode cX2_shift 42 = .ok (.iastore, 1) := by decide +kernel
theorem dX2_shift_43 : decode cX2_shift 43 = .ok (.return_, 1) := by decide +kernel
theorem dX2_seen_0 : decode cX2_seen 0 = .ok (.aload_n 0, 1) := by decide +kernel
theorem dX2_seen_1 : decode cX2_seen 1 = .ok (.getfield 7, 3) := by decide +kernel
theorem dX2_seen_4 : decode cX2_seen 4 = .ok (.bipush 33, 2) := by decide +kernel
theorem dX2_seen_6 : decode cX2_seen 6 = .ok (.iload_n 1, 1) := by decide +kernel
theorem dX2_seen_7 : decode cX2_seen 7 = .ok (.iadd, 1) := by decide +kernel
theorem dX2_seen_8 : decode cX2_seen 8 = .ok (.aload_n 0, 1) := by decide +kernel
theorem dX2_seen_9 : decode cX2_seen 9 = .ok (.getfield 7, 3) := by decide +kernel
theorem dX2_seen_12 : decode cX2_seen 12 = .ok (.iconst 4, 1) := by decide +kernel
theorem dX2_seen_13 : decode cX2_seen 13 = .ok (.iaload, 1) := by decide +kernel
theorem dX2_seen_14 : decode cX2_seen 14 = .ok (.iadd, 1) := by decide +kernel
theorem dX2_seen_15 : decode cX2_seen 15 = .ok (.iaload, 1) := by decide +kernel
theorem dX2_seen_16 : decode cX2_seen 16 = .ok (.ireturn, 1) := by decide +kernel
set_option maxRecDepth 20000 in
theorem ggX2_estimate_X2_seen : GoodIn wsX2_estimate wsX2_seen := goodIn_r _ [6, 1, 7, 8, 9] (by decide +kernel) (by decide +kernel)
set_option maxRecDepth 20000 in
theorem gX2_estimate_X2_seen : GoodIn wsX2_estimate (wsV RX2 28 RX2 yX2_seen wsX2_seen) := goodIn_app (goodIn_of _ (by decide +kernel)) ggX2_estimate_X2_seen
theorem dX2_estimate_0 : decode cX2_estimate 0 = .ok (.iconst 0, 1) := by decide +kernel
theorem dX2_estimate_1 : decode cX2_estimate 1 = .ok (.istore_n 1, 1) := by decide +kernel
theorem dX2_estimate_2 : decode cX2_estimate 2 = .ok (.iconst 0, 1) := by decide +kernel
theorem dX2_estimate_3 : decode cX2_estimate 3 = .ok (.istore_n 2, 1) := by decide +kernel
theorem dX2_estimate_4 : decode cX2_estimate 4 = .ok (.iload_n 2, 1) := by decide +kernel
theorem dX2_estimate_5 : decode cX2_estimate 5 = .ok (.bipush 8, 2) := by decide +kernel
theorem dX2_estimate_7 : decode cX2_estimate 7 = .ok (.if_icmp .ge 26, 3) := by decide +kernel
theorem dX2_estimate_10 : decode cX2_estimate 10 = .ok (.iload_n 1, 1) := by decide +kernel
theorem dX2_estimate_11 : decode cX2_estimate 11 = .ok (.aload_n 0, 1) := by decide +kernel
theorem dX2_estimate_12 : decode cX2_estimate 12 = .ok (.getfield 7, 3) := by decide +kernel
theorem dX2_estimate_15 : decode cX2_estimate 15 = .ok (.iconst 5, 1) := by decide +kernel
theorem dX2_estimate_16 : decode cX2_estimate 16 = .ok (.iload_n 2, 1) := by decide +kernel
theorem dX2_estimate_17 : decode cX2_estimate 17 = .ok (.iadd, 1) := by decide +kernel
theorem dX2_estimate_18 : decode cX2_estimate 18 = .ok (.iaload, 1) := by decide +kernel
theorem dX2_estimate_19 : decode cX2_estimate 19 = .ok (.aload_n 0, 1) := by decide +kernel
theorem dX2_estimate_20 : decode cX2_estimate 20 = .ok (.iload_n 2, 1) := by decide +kernel
theorem dX2_estimate_21 : decode cX2_estimate 21 = .ok (.invokevirtual 28, 3) := by decide +kernel
theorem dX2_estimate_24 : decode cX2_estimate 24 = .ok (.imul, 1) := by decide +kernel
theorem dX2_estimate_25 : decode cX2_estimate 25 = .ok (.iadd, 1) := by decide +kernel
theorem dX2_estimate_26 : decode cX2_estimate 26 = .ok (.istore_n 1, 1) := by decide +kernel
theorem dX2_estimate_27 : decode cX2_estimate 27 = .ok (.iinc 2 1, 3) := by decide +kernel
theorem dX2_estimate_30 : decode cX2_estimate 30 = .ok (.goto (-26), 3) := by decide +kernel
theorem dX2_estimate_33 : decode cX2_estimate 33 = .ok (.iload_n 1, 1) := by decide +kernel
theorem dX2_estimate_34 : decode cX2_estimate 34 = .ok (.sipush 1024, 3) := by decide +kernel
theorem dX2_estimate_37 : decode cX2_estimate 37 = .ok (.idiv, 1) := by decide +kernel
theorem dX2_estimate_38 : decode cX2_estimate 38 = .ok (.ireturn, 1) := by decide +kernel
set_option maxRecDepth 20000 in
theorem ggX2_loud_X2_size : GoodIn wsX2_loud wsX2_size := goodIn_r _ [5] (by decide +kernel) (by decide +kernel)
set_option maxRecDepth 20000 in
theorem gX2_loud_X2_size : GoodIn wsX2_loud (va_wsS RX2 31 yX2_size wsX2_size) := goodIn_app (goodIn_of _ (by decide +kernel)) ggX2_loud_X2_size
theorem dX2_loud_0 : decode cX2_loud 0 = .ok (.iconst 0, 1) := by decide +kernel
theorem dX2_loud_1 : decode cX2_loud 1 = .ok (.istore_n 1, 1) := by decide +kernel
theorem dX2_loud_2 : decode cX2_loud 2 = .ok (.iconst 0, 1) := by decide +kernel
theorem dX2_loud_3 : decode cX2_loud 3 = .ok (.istore_n 2, 1) := by decide +kernel
theorem dX2_loud_4 : decode cX2_loud 4 = .ok (.iload_n 2, 1) := by decide +kernel
theorem dX2_loud_5 : decode cX2_loud 5 = .ok (.bipush 24, 2) := by decide +kernel
theorem dX2_loud_7 : decode cX2_loud 7 = .ok (.if_icmp .ge 42, 3) := by decide +kernel
theorem dX2_loud_10 : decode cX2_loud 10 = .ok (.aload_n 0, 1) := by decide +kernel
theorem dX2_loud_11 : decode cX2_loud 11 = .ok (.getfield 7, 3) := by decide +kernel
theorem dX2_loud_14 : decode cX2_loud 14 = .ok (.bipush 33, 2) := by decide +kernel
theorem dX2_loud_16 : decode cX2_loud 16 = .ok (.iload_n 2, 1) := by decide +kernel
theorem dX2_loud_17 : decode cX2_loud 17 = .ok (.iadd, 1) := by decide +kernel
theorem dX2_loud_18 : decode cX2_loud 18 = .ok (.iaload, 1) := by decide +kernel
theorem dX2_loud_19 : decode cX2_loud 19 = .ok (.invokestatic 31, 3) := by decide +kernel
theorem dX2_loud_22 : decode cX2_loud 22 = .ok (.iload_n 1, 1) := by decide +kernel
theorem dX2_loud_23 : decode cX2_loud 23 = .ok (.if_icmp .le 18, 3) := by decide +kernel
theorem dX2_loud_26 : decode cX2_loud 26 = .ok (.aload_n 0, 1) := by decide +kernel
theorem dX2_loud_27 : decode cX2_loud 27 = .ok (.getfield 7, 3) := by decide +kernel
theorem dX2_loud_30 : decode cX2_loud 30 = .ok (.bipush 33, 2) := by decide +kernel
theorem dX2_loud_32 : decode cX2_loud 32 = .ok (.iload_n 2, 1) := by decide +kernel
theorem dX2_loud_33 : decode cX2_loud 33 = .ok (.iadd, 1) := by decide +kernel
theorem dX2_loud_34 : decode cX2_loud 34 = .ok (.iaload, 1) := by decide +kernel
theorem dX2_loud_35 : decode cX2_loud 35 = .ok (.invokestatic 31, 3) := by decide +kernel
theorem dX2_loud_38 : decode cX2_loud 38 = .ok (.goto 4, 3) := by decide +kernel
theorem dX2_loud_41 : decode cX2_loud 41 = .ok (.iload_n 1, 1) := by decide +kernel
theorem dX2_loud_42 : decode cX2_loud 42 = .ok (.istore_n 1, 1) := by decide +kernel
theorem dX2_loud_43 : decode cX2_loud 43 = .ok (.iinc 2 1, 3) := by decide +kernel
theorem dX2_loud_46 : decode cX2_loud 46 = .ok (.goto (-42), 3) := by decide +kernel
theorem dX2_loud_49 : decode cX2_loud 49 = .ok (.iload_n 1, 1) := by decide +kernel
theorem dX2_loud_50 : decode cX2_loud 50 = .ok (.ireturn, 1) := by decide +kernel
set_option maxRecDepth 20000 in
theorem ggX2_power_X2_seen : GoodIn wsX2_power wsX2_seen := goodIn_r _ [5, 6, 7, 8, 9] (by decide +kernel) (by decide +kernel)
set_option maxRecDepth 20000 in
theorem gX2_power_X2_seen : GoodIn wsX2_power (wsV RX2 28 RX2 yX2_seen wsX2_seen) := goodIn_app (goodIn_of _ (by decide +kernel)) ggX2_power_X2_seen
theorem dX2_power_0 : decode cX2_power 0 = .ok (.iconst 0, 1) := by decide +kernel
theorem dX2_power_1 : decode cX2_power 1 = .ok (.istore_n 1, 1) := by decide +kernel
theorem dX2_power_2 : decode cX2_power 2 = .ok (.iconst 0, 1) := by decide +kernel
theorem dX2_power_3 : decode cX2_power 3 = .ok (.istore_n 2, 1) := by decide +kernel
theorem dX2_power_4 : decode cX2_power 4 = .ok (.iload_n 2, 1) := by decide +kernel
theorem dX2_power_5 : decode cX2_power 5 = .ok (.bipush 8, 2) := by decide +kernel
theorem dX2_power_7 : decode cX2_power 7 = .ok (.if_icmp .ge 23, 3) := by decide +kernel
theorem dX2_power_10 : decode cX2_power 10 = .ok (.iload_n 1, 1) := by decide +kernel
theorem dX2_power_11 : decode cX2_power 11 = .ok (.aload_n 0, 1) := by decide +kernel
theorem dX2_power_12 : decode cX2_power 12 = .ok (.iload_n 2, 1) := by decide +kernel
theorem dX2_power_13 : decode cX2_power 13 = .ok (.invokevirtual 28, 3) := by decide +kernel
theorem dX2_power_16 : decode cX2_power 16 = .ok (.aload_n 0, 1) := by decide +kernel
theorem dX2_power_17 : decode cX2_power 17 = .ok (.iload_n 2, 1) := by decide +kernel
theorem dX2_power_18 : decode cX2_power 18 = .ok (.invokevirtual 28, 3) := by decide +kernel
theorem dX2_power_21 : decode cX2_power 21 = .ok (.imul, 1) := by decide +kernel
theorem dX2_power_22 : decode cX2_power 22 = .ok (.iadd, 1) := by decide +kernel
theorem dX2_power_23 : decode cX2_power 23 = .ok (.istore_n 1, 1) := by decide +kernel
theorem dX2_power_24 : decode cX2_power 24 = .ok (.iinc 2 1, 3) := by decide +kernel
theorem dX2_power_27 : decode cX2_power 27 = .ok (.goto (-23), 3) := by decide +kernel
theorem dX2_power_30 : decode cX2_power 30 = .ok (.iload_n 1, 1) := by decide +kernel
theorem dX2_power_31 : decode cX2_power 31 = .ok (.ireturn, 1) := by decide +kernel
theorem dX2_comesRound_0 : decode cX2_comesRound 0 = .ok (.iconst 1, 1) := by decide +kernel
theorem dX2_comesRound_1 : decode cX2_comesRound 1 = .ok (.istore_n 2, 1) := by decide +kernel
theorem dX2_comesRound_2 : decode cX2_comesRound 2 = .ok (.iconst 0, 1) := by decide +kernel
theorem dX2_comesRound_3 : decode cX2_comesRound 3 = .ok (.istore_n 3, 1) := by decide +kernel
theorem dX2_comesRound_4 : decode cX2_comesRound 4 = .ok (.iload_n 3, 1) := by decide +kernel
theorem dX2_comesRound_5 : decode cX2_comesRound 5 = .ok (.iload_n 1, 1) := by decide +kernel
theorem dX2_comesRound_6 : decode cX2_comesRound 6 = .ok (.iadd, 1) := by decide +kernel
theorem dX2_comesRound_7 : decode cX2_comesRound 7 = .ok (.bipush 16, 2) := by decide +kernel
theorem dX2_comesRound_9 : decode cX2_comesRound 9 = .ok (.if_icmp .ge 42, 3) := by decide +kernel
theorem dX2_comesRound_12 : decode cX2_comesRound 12 = .ok (.iload_n 2, 1) := by decide +kernel
theorem dX2_comesRound_13 : decode cX2_comesRound 13 = .ok (.ifCond .eq 30, 3) := by decide +kernel
theorem dX2_comesRound_16 : decode cX2_comesRound 16 = .ok (.aload_n 0, 1) := by decide +kernel
theorem dX2_comesRound_17 : decode cX2_comesRound 17 = .ok (.getfield 7, 3) := by decide +kernel
theorem dX2_comesRound_20 : decode cX2_comesRound 20 = .ok (.bipush 33, 2) := by decide +kernel
theorem dX2_comesRound_22 : decode cX2_comesRound 22 = .ok (.iload_n 3, 1) := by decide +kernel
theorem dX2_comesRound_23 : decode cX2_comesRound 23 = .ok (.iadd, 1) := by decide +kernel
theorem dX2_comesRound_24 : decode cX2_comesRound 24 = .ok (.iaload, 1) := by decide +kernel
theorem dX2_comesRound_25 : decode cX2_comesRound 25 = .ok (.aload_n 0, 1) := by decide +kernel
theorem dX2_comesRound_26 : decode cX2_comesRound 26 = .ok (.getfield 7, 3) := by decide +kernel
theorem dX2_comesRound_29 : decode cX2_comesRound 29 = .ok (.bipush 33, 2) := by decide +kernel
theorem dX2_comesRound_31 : decode cX2_comesRound 31 = .ok (.iload_n 3, 1) := by decide +kernel
theorem dX2_comesRound_32 : decode cX2_comesRound 32 = .ok (.iadd, 1) := by decide +kernel
theorem dX2_comesRound_33 : decode cX2_comesRound 33 = .ok (.iload_n 1, 1) := by decide +kernel
theorem dX2_comesRound_34 : decode cX2_comesRound 34 = .ok (.iadd, 1) := by decide +kernel
theorem dX2_comesRound_35 : decode cX2_comesRound 35 = .ok (.iaload, 1) := by decide +kernel
theorem dX2_comesRound_36 : decode cX2_comesRound 36 = .ok (.if_icmp .ne 7, 3) := by decide +kernel
theorem dX2_comesRound_39 : decode cX2_comesRound 39 = .ok (.iconst 1, 1) := by decide +kernel
theorem dX2_comesRound_40 : decode cX2_comesRound 40 = .ok (.goto 4, 3) := by decide +kernel
theorem dX2_comesRound_43 : decode cX2_comesRound 43 = .ok (.iconst 0, 1) := by decide +kernel
theorem dX2_comesRound_44 : decode cX2_comesRound 44 = .ok (.istore_n 2, 1) := by decide +kernel
theorem dX2_comesRound_45 : decode cX2_comesRound 45 = .ok (.iinc 3 1, 3) := by decide +kernel
theorem dX2_comesRound_48 : decode cX2_comesRound 48 = .ok (.goto (-44), 3) := by decide +kernel
theorem dX2_comesRound_51 : decode cX2_comesRound 51 = .ok (.iload_n 2, 1) := by decide +kernel
theorem dX2_comesRound_52 : decode cX2_comesRound 52 = .ok (.ireturn, 1) := by decide +kernel
set_option maxRecDepth 20000 in
theorem ggX2_tone_X2_comesRound : GoodIn wsX2_tone wsX2_comesRound := goodIn_r _ [6, 1, 7, 8, 9] (by decide +kernel) (by decide +kernel)
set_option maxRecDepth 20000 in
theorem gX2_tone_X2_comesRound : GoodIn wsX2_tone (wsV RX2 34 RX2 yX2_comesRound wsX2_comesRound) := goodIn_app (goodIn_of _ (by decide +kernel)) ggX2_tone_X2_comesRound
theorem dX2_tone_0 : decode cX2_tone 0 = .ok (.iconst 0, 1) := by decide +kernel
theorem dX2_tone_1 : decode cX2_tone 1 = .ok (.istore_n 1, 1) := by decide +kernel
theorem dX2_tone_2 : decode cX2_tone 2 = .ok (.iconst 0, 1) := by decide +kernel
theorem dX2_tone_3 : decode cX2_tone 3 = .ok (.istore_n 2, 1) := by decide +kernel
theorem dX2_tone_4 : decode cX2_tone 4 = .ok (.iload_n 2, 1) := by decide +kernel
theorem dX2_tone_5 : decode cX2_tone 5 = .ok (.bipush 16, 2) := by decide +kernel
theorem dX2_tone_7 : decode cX2_tone 7 = .ok (.if_icmp .ge 31, 3) := by decide +kernel
theorem dX2_tone_10 : decode cX2_tone 10 = .ok (.iload_n 1, 1) := by decide +kernel
theorem dX2_tone_11 : decode cX2_tone 11 = .ok (.ifCond .ne 15, 3) := by decide +kernel
theorem dX2_tone_14 : decode cX2_tone 14 = .ok (.aload_n 0, 1) := by decide +kernel
theorem dX2_tone_15 : decode cX2_tone 15 = .ok (.getfield 7, 3) := by decide +kernel
theorem dX2_tone_18 : decode cX2_tone 18 = .ok (.bipush 33, 2) := by decide +kernel
theorem dX2_tone_20 : decode cX2_tone 20 = .ok (.iload_n 2, 1) := by decide +kernel
theorem dX2_tone_21 : decode cX2_tone 21 = .ok (.iadd, 1) := by decide +kernel
theorem dX2_tone_22 : decode cX2_tone 22 = .ok (.iaload, 1) := by decide +kernel
theorem dX2_tone_23 : decode cX2_tone 23 = .ok (.ifCond .eq 7, 3) := by decide +kernel
theorem dX2_tone_26 : decode cX2_tone 26 = .ok (.iconst 1, 1) := by decide +kernel
theorem dX2_tone_27 : decode cX2_tone 27 = .ok (.goto 4, 3) := by decide +kernel
theorem dX2_tone_30 : decode cX2_tone 30 = .ok (.iconst 0, 1) := by decide +kernel
theorem dX2_tone_31 : decode cX2_tone 31 = .ok (.istore_n 1, 1) := by decide +kernel
theorem dX2_tone_32 : decode cX2_tone 32 = .ok (.iinc 2 1, 3) := by decide +kernel
theorem dX2_tone_35 : decode cX2_tone 35 = .ok (.goto (-31), 3) := by decide +kernel
theorem dX2_tone_38 : decode cX2_tone 38 = .ok (.iload_n 1, 1) := by decide +kernel
theorem dX2_tone_39 : decode cX2_tone 39 = .ok (.ifCond .eq 27, 3) := by decide +kernel
theorem dX2_tone_42 : decode cX2_tone 42 = .ok (.iconst 1, 1) := by decide +kernel
theorem dX2_tone_43 : decode cX2_tone 43 = .ok (.istore_n 2, 1) := by decide +kernel
theorem dX2_tone_44 : decode cX2_tone 44 = .ok (.iload_n 2, 1) := by decide +kernel
theorem dX2_tone_45 : decode cX2_tone 45 = .ok (.bipush 8, 2) := by decide +kernel
theorem dX2_tone_47 : decode cX2_tone 47 = .ok (.if_icmp .gt 19, 3) := by decide +kernel
theorem dX2_tone_50 : decode cX2_tone 50 = .ok (.aload_n 0, 1) := by decide +kernel
theorem dX2_tone_51 : decode cX2_tone 51 = .ok (.iload_n 2, 1) := by decide +kernel
theorem dX2_tone_52 : decode cX2_tone 52 = .ok (.invokevirtual 34, 3) := by decide +kernel
theorem dX2_tone_55 : decode cX2_tone 55 = .ok (.ifCond .eq 5, 3) := by decide +kernel
theorem dX2_tone_58 : decode cX2_tone 58 = .ok (.iload_n 2, 1) := by decide +kernel
theorem dX2_tone_59 : decode cX2_tone 59 = .ok (.ireturn, 1) := by decide +kernel
theorem dX2_tone_60 : decode cX2_tone 60 = .ok (.iinc 2 1, 3) := by decide +kernel
theorem dX2_tone_63 : decode cX2_tone 63 = .ok (.goto (-19), 3) := by decide +kernel
theorem dX2_tone_66 : decode cX2_tone 66 = .ok (.iconst 0, 1) := by decide +kernel
theorem dX2_tone_67 : decode cX2_tone 67 = .ok (.ireturn, 1) := by decide +kernel
theorem dX2_hold_0 : decode cX2_hold 0 = .ok (.aload_n 0, 1) := by decide +kernel
theorem dX2_hold_1 : decode cX2_hold 1 = .ok (.getfield 7, 3) := by decide +kernel
theorem dX2_hold_4 : decode cX2_hold 4 = .ok (.bipush 30, 2) := by decide +kernel
theorem dX2_hold_6 : decode cX2_hold 6 = .ok (.iaload, 1) := by decide +kernel
theorem dX2_hold_7 : decode cX2_hold 7 = .ok (.iconst 1, 1) := by decide +kernel
theorem dX2_hold_8 : decode cX2_hold 8 = .ok (.if_icmp .ne 19, 3) := by decide +kernel
theorem dX2_hold_11 : decode cX2_hold 11 = .ok (.aload_n 0, 1) := by decide +kernel
theorem dX2_hold_12 : decode cX2_hold 12 = .ok (.getfield 7, 3) := by decide +kernel
theorem dX2_hold_15 : decode cX2_hold 15 = .ok (.bipush 22, 2) := by decide +kernel
theorem dX2_hold_17 : decode cX2_hold 17 = .ok (.aload_n 0, 1) := by decide +kernel
theorem dX2_hold_18 : decode cX2_hold 18 = .ok (.getfield 7, 3) := by decide +kernel
theorem dX2_hold_21 : decode cX2_hold 21 = .ok (.iconst 1, 1) := by decide +kernel
theorem dX2_hold_22 : decode cX2_hold 22 = .ok (.iaload, 1) := by decide +kernel
theorem dX2_hold_23 : decode cX2_hold 23 = .ok (.iastore, 1) := by decide +kernel
theorem dX2_hold_24 : decode cX2_hold 24 = .ok (.goto 24, 3) := by decide +kernel
theorem dX2_hold_27 : decode cX2_hold 27 = .ok (.aload_n 0, 1) := by decide +kernel
theorem dX2_hold_28 : decode cX2_hold 28 = .ok (.getfield 7, 3) := by decide +kernel
theorem dX2_hold_31 : decode cX2_hold 31 = .ok (.bipush 22, 2) := by decide +kernel
theorem dX2_hold_33 : decode cX2_hold 33 = .ok (.iaload, 1) := by decide +kernel
theorem dX2_hold_34 : decode cX2_hold 34 = .ok (.ifCond .le 14, 3) := by decide +kernel
theorem dX2_hold_37 : decode cX2_hold 37 = .ok (.aload_n 0, 1) := by decide +kernel
theorem dX2_hold_38 : decode cX2_hold 38 = .ok (.getfield 7, 3) := by decide +kernel
theorem dX2_hold_41 : decode cX2_hold 41 = .ok (.bipush 22, 2) := by decide +kernel
theorem dX2_hold_43 : decode cX2_hold 43 = .ok (.dup2, 1) := by decide +kernel
theorem dX2_hold_44 : decode cX2_hold 44 = .ok (.iaload, 1) := by decide +kernel
theorem dX2_hold_45 : decode cX2_hold 45 = .ok (.iconst 1, 1) := by decide +kernel
theorem dX2_hold_46 : decode cX2_hold 46 = .ok (.isub, 1) := by decide +kernel
theorem dX2_hold_47 : decode cX2_hold 47 = .ok (.iastore, 1) := by decide +kernel
theorem dX2_hold_48 : decode cX2_hold 48 = .ok (.return_, 1) := by decide +kernel
set_option maxRecDepth 20000 in
theorem ggX2_learn_X2_seen : GoodIn wsX2_learn wsX2_seen := goodIn_r _ [6, 1, 10, 11, 12] (by decide +kernel) (by decide +kernel)
set_option maxRecDepth 20000 in
theorem gX2_learn_X2_seen : GoodIn wsX2_learn (wsV RX2 28 RX2 yX2_seen wsX2_seen) := goodIn_app (goodIn_of _ (by decide +kernel)) ggX2_learn_X2_seen
set_option maxRecDepth 20000 in
theorem ggX2_learn_X2_within : GoodIn wsX2_learn wsX2_within := goodIn_r _ [9] (by decide +kernel) (by decide +kernel)
set_option maxRecDepth 20000 in
theorem gX2_learn_X2_within : GoodIn wsX2_learn (va_wsS RX2 38 yX2_within wsX2_within) := goodIn_app (goodIn_of _ (by decide +kernel)) ggX2_learn_X2_within
theorem dX2_learn_0 : decode cX2_learn 0 = .ok (.iconst 0, 1) := by decide +kernel
theorem dX2_learn_1 : decode cX2_learn 1 = .ok (.istore_n 1, 1) := by decide +kernel
theorem dX2_learn_2 : decode cX2_learn 2 = .ok (.iload_n 1, 1) := by decide +kernel
theorem dX2_learn_3 : decode cX2_learn 3 = .ok (.bipush 8, 2) := by decide +kernel
theorem dX2_learn_5 : decode cX2_learn 5 = .ok (.if_icmp .ge 70, 3) := by decide +kernel
theorem dX2_learn_8 : decode cX2_learn 8 = .ok (.aload_n 0, 1) := by decide +kernel
theorem dX2_learn_9 : decode cX2_learn 9 = .ok (.getfield 7, 3) := by decide +kernel
theorem dX2_learn_12 : decode cX2_learn 12 = .ok (.iconst 0, 1) := by decide +kernel
theorem dX2_learn_13 : decode cX2_learn 13 = .ok (.iaload, 1) := by decide +kernel
theorem dX2_learn_14 : decode cX2_learn 14 = .ok (.i2l, 1) := by decide +kernel
theorem dX2_learn_15 : decode cX2_learn 15 = .ok (.aload_n 0, 1) := by decide +kernel
theorem dX2_learn_16 : decode cX2_learn 16 = .ok (.getfield 7, 3) := by decide +kernel
theorem dX2_learn_19 : decode cX2_learn 19 = .ok (.bipush 26, 2) := by decide +kernel
theorem dX2_learn_21 : decode cX2_learn 21 = .ok (.iaload, 1) := by decide +kernel
theorem dX2_learn_22 : decode cX2_learn 22 = .ok (.i2l, 1) := by decide +kernel
theorem dX2_learn_23 : decode cX2_learn 23 = .ok (.lmul, 1) := by decide +kernel
theorem dX2_learn_24 : decode cX2_learn 24 = .ok (.aload_n 0, 1) := by decide +kernel
theorem dX2_learn_25 : decode cX2_learn 25 = .ok (.iload_n 1, 1) := by decide +kernel
theorem dX2_learn_26 : decode cX2_learn 26 = .ok (.invokevirtual 28, 3) := by decide +kernel
theorem dX2_learn_29 : decode cX2_learn 29 = .ok (.i2l, 1) := by decide +kernel
theorem dX2_learn_30 : decode cX2_learn 30 = .ok (.lmul, 1) := by decide +kernel
theorem dX2_learn_31 : decode cX2_learn 31 = .ok (.aload_n 0, 1) := by decide +kernel
theorem dX2_learn_32 : decode cX2_learn 32 = .ok (.getfield 7, 3) := by decide +kernel
theorem dX2_learn_35 : decode cX2_learn 35 = .ok (.bipush 29, 2) := by decide +kernel
theorem dX2_learn_37 : decode cX2_learn 37 = .ok (.iaload, 1) := by decide +kernel
theorem dX2_learn_38 : decode cX2_learn 38 = .ok (.i2l, 1) := by decide +kernel
theorem dX2_learn_39 : decode cX2_learn 39 = .ok (.ldiv, 1) := by decide +kernel
theorem dX2_learn_40 : decode cX2_learn 40 = .ok (.lstore_n 2, 1) := by decide +kernel
theorem dX2_learn_41 : decode cX2_learn 41 = .ok (.aload_n 0, 1) := by decide +kernel
theorem dX2_learn_42 : decode cX2_learn 42 = .ok (.getfield 7, 3) := by decide +kernel
theorem dX2_learn_45 : decode cX2_learn 45 = .ok (.iconst 5, 1) := by decide +kernel
theorem dX2_learn_46 : decode cX2_learn 46 = .ok (.iload_n 1, 1) := by decide +kernel
theorem dX2_learn_47 : decode cX2_learn 47 = .ok (.iadd, 1) := by decide +kernel
theorem dX2_learn_48 : decode cX2_learn 48 = .ok (.aload_n 0, 1) := by decide +kernel
theorem dX2_learn_49 : decode cX2_learn 49 = .ok (.getfield 7, 3) := by decide +kernel
theorem dX2_learn_52 : decode cX2_learn 52 = .ok (.iconst 5, 1) := by decide +kernel
theorem dX2_learn_53 : decode cX2_learn 53 = .ok (.iload_n 1, 1) := by decide +kernel
theorem dX2_learn_54 : decode cX2_learn 54 = .ok (.iadd, 1) := by decide +kernel
theorem dX2_learn_55 : decode cX2_learn 55 = .ok (.iaload, 1) := by decide +kernel
theorem dX2_learn_56 : decode cX2_learn 56 = .ok (.lload_n 2, 1) := by decide +kernel
theorem dX2_learn_57 : decode cX2_learn 57 = .ok (.l2i, 1) := by decide +kernel
theorem dX2_learn_58 : decode cX2_learn 58 = .ok (.iadd, 1) := by decide +kernel
theorem dX2_learn_59 : decode cX2_learn 59 = .ok (.sipush (-4096), 3) := by decide +kernel
theorem dX2_learn_62 : decode cX2_learn 62 = .ok (.sipush 4095, 3) := by decide +kernel
theorem dX2_learn_65 : decode cX2_learn 65 = .ok (.invokestatic 38, 3) := by decide +kernel
theorem dX2_learn_68 : decode cX2_learn 68 = .ok (.iastore, 1) := by decide +kernel
theorem dX2_learn_69 : decode cX2_learn 69 = .ok (.iinc 1 1, 3) := by decide +kernel
theorem dX2_learn_72 : decode cX2_learn 72 = .ok (.goto (-70), 3) := by decide +kernel
theorem dX2_learn_75 : decode cX2_learn 75 = .ok (.return_, 1) := by decide +kernel
theorem dX2_next_0 : decode cX2_next 0 = .ok (.bipush 75, 2) := by decide +kernel
theorem dX2_next_2 : decode cX2_next 2 = .ok (.iload_n 0, 1) := by decide +kernel
theorem dX2_next_3 : decode cX2_next 3 = .ok (.imul, 1) := by decide +kernel
theorem dX2_next_4 : decode cX2_next 4 = .ok (.bipush 74, 2) := by decide +kernel
theorem dX2_next_6 : decode cX2_next 6 = .ok (.iadd, 1) := by decide +kernel
theorem dX2_next_7 : decode cX2_next 7 = .ok (.ldc 42, 2) := by decide +kernel
theorem dX2_next_9 : decode cX2_next 9 = .ok (.irem, 1) := by decide +kernel
theorem dX2_next_10 : decode cX2_next 10 = .ok (.ireturn, 1) := by decide +kernel
set_option maxRecDepth 20000 in
theorem ggX2_noise_X2_next : GoodIn wsX2_noise wsX2_next := goodIn_r _ [5, 6] (by decide +kernel) (by decide +kernel)
set_option maxRecDepth 20000 in
theorem gX2_noise_X2_next : GoodIn wsX2_noise (va_wsS RX2 43 yX2_next wsX2_next) := goodIn_app (goodIn_of _ (by decide +kernel)) ggX2_noise_X2_next
theorem dX2_noise_0 : decode cX2_noise 0 = .ok (.aload_n 0, 1) := by decide +kernel
theorem dX2_noise_1 : decode cX2_noise 1 = .ok (.getfield 7, 3) := by decide +kernel
theorem dX2_noise_4 : decode cX2_noise 4 = .ok (.bipush 23, 2) := by decide +kernel
theorem dX2_noise_6 : decode cX2_noise 6 = .ok (.aload_n 0, 1) := by decide +kernel
theorem dX2_noise_7 : decode cX2_noise 7 = .ok (.getfield 7, 3) := by decide +kernel
theorem dX2_noise_10 : decode cX2_noise 10 = .ok (.bipush 23, 2) := by decide +kernel
theorem dX2_noise_12 : decode cX2_noise 12 = .ok (.iaload, 1) := by decide +kernel
theorem dX2_noise_13 : decode cX2_noise 13 = .ok (.invokestatic 43, 3) := by decide +kernel
theorem dX2_noise_16 : decode cX2_noise 16 = .ok (.iastore, 1) := by decide +kernel
theorem dX2_noise_17 : decode cX2_noise 17 = .ok (.aload_n 0, 1) := by decide +kernel
theorem dX2_noise_18 : decode cX2_noise 18 = .ok (.getfield 7, 3) := by decide +kernel
theorem dX2_noise_21 : decode cX2_noise 21 = .ok (.bipush 23, 2) := by decide +kernel
theorem dX2_noise_23 : decode cX2_noise 23 = .ok (.iaload, 1) := by decide +kernel
theorem dX2_noise_24 : decode cX2_noise 24 = .ok (.iconst 2, 1) := by decide +kernel
theorem dX2_noise_25 : decode cX2_noise 25 = .ok (.aload_n 0, 1) := by decide +kernel
theorem dX2_noise_26 : decode cX2_noise 26 = .ok (.getfield 7, 3) := by decide +kernel
theorem dX2_noise_29 : decode cX2_noise 29 = .ok (.iconst 3, 1) := by decide +kernel
theorem dX2_noise_30 : decode cX2_noise 30 = .ok (.iaload, 1) := by decide +kernel
theorem dX2_noise_31 : decode cX2_noise 31 = .ok (.imul, 1) := by decide +kernel
theorem dX2_noise_32 : decode cX2_noise 32 = .ok (.iconst 1, 1) := by decide +kernel
theorem dX2_noise_33 : decode cX2_noise 33 = .ok (.iadd, 1) := by decide +kernel
theorem dX2_noise_34 : decode cX2_noise 34 = .ok (.irem, 1) := by decide +kernel
theorem dX2_noise_35 : decode cX2_noise 35 = .ok (.aload_n 0, 1) := by decide +kernel
theorem dX2_noise_36 : decode cX2_noise 36 = .ok (.getfield 7, 3) := by decide +kernel
theorem dX2_noise_39 : decode cX2_noise 39 = .ok (.iconst 3, 1) := by decide +kernel
theorem dX2_noise_40 : decode cX2_noise 40 = .ok (.iaload, 1) := by decide +kernel
theorem dX2_noise_41 : decode cX2_noise 41 = .ok (.isub, 1) := by decide +kernel
theorem dX2_noise_42 : decode cX2_noise 42 = .ok (.ireturn, 1) := by decide +kernel
set_option maxRecDepth 20000 in
theorem ggX2_outNow_X2_size : GoodIn wsX2_outNow wsX2_size := goodIn_r _ [5] (by decide +kernel) (by decide +kernel)
set_option maxRecDepth 20000 in
theorem gX2_outNow_X2_size : GoodIn wsX2_outNow (va_wsS RX2 31 yX2_size wsX2_size) := goodIn_app (goodIn_of _ (by decide +kernel)) ggX2_outNow_X2_size
set_option maxRecDepth 20000 in
theorem ggX2_outNow_X2_noise : GoodIn wsX2_outNow wsX2_noise := goodIn_r _ [9, 1, 10, 11, 4, 12, 13, 17, 18, 19] (by decide +kernel) (by decide +kernel)
set_option maxRecDepth 20000 in
theorem gX2_outNow_X2_noise : GoodIn wsX2_outNow (wsV RX2 46 RX2 yX2_noise wsX2_noise) := goodIn_app (goodIn_of _ (by decide +kernel)) ggX2_outNow_X2_noise
set_option maxRecDepth 20000 in
theorem ggX2_outNow_X2_within : GoodIn wsX2_outNow wsX2_within := goodIn_r _ [16] (by decide +kernel) (by decide +kernel)
set_option maxRecDepth 20000 in
theorem gX2_outNow_X2_within : GoodIn wsX2_outNow (va_wsS RX2 38 yX2_within wsX2_within) := goodIn_app (goodIn_of _ (by decide +kernel)) ggX2_outNow_X2_within
theorem dX2_outNow_0 : decode cX2_outNow 0 = .ok (.aload_n 0, 1) := by decide +kernel
theorem dX2_outNow_1 : decode cX2_outNow 1 = .ok (.getfield 7, 3) := by decide +kernel
theorem dX2_outNow_4 : decode cX2_outNow 4 = .ok (.bipush 31, 2) := by decide +kernel
theorem dX2_outNow_6 : decode cX2_outNow 6 = .ok (.iaload, 1) := by decide +kernel
theorem dX2_outNow_7 : decode cX2_outNow 7 = .ok (.ifCond .le 11, 3) := by decide +kernel
theorem dX2_outNow_10 : decode cX2_outNow 10 = .ok (.aload_n 0, 1) := by decide +kernel
theorem dX2_outNow_11 : decode cX2_outNow 11 = .ok (.getfield 7, 3) := by decide +kernel
theorem dX2_outNow_14 : decode cX2_outNow 14 = .ok (.bipush 73, 2) := by decide +kernel
theorem dX2_outNow_16 : decode cX2_outNow 16 = .ok (.iaload, 1) := by decide +kernel
theorem dX2_outNow_17 : decode cX2_outNow 17 = .ok (.ireturn, 1) := by decide +kernel
theorem dX2_outNow_18 : decode cX2_outNow 18 = .ok (.aload_n 0, 1) := by decide +kernel
theorem dX2_outNow_19 : decode cX2_outNow 19 = .ok (.getfield 7, 3) := by decide +kernel
theorem dX2_outNow_22 : decode cX2_outNow 22 = .ok (.bipush 26, 2) := by decide +kernel
theorem dX2_outNow_24 : decode cX2_outNow 24 = .ok (.iaload, 1) := by decide +kernel
theorem dX2_outNow_25 : decode cX2_outNow 25 = .ok (.invokestatic 31, 3) := by decide +kernel
theorem dX2_outNow_28 : decode cX2_outNow 28 = .ok (.aload_n 0, 1) := by decide +kernel
theorem dX2_outNow_29 : decode cX2_outNow 29 = .ok (.getfield 7, 3) := by decide +kernel
theorem dX2_outNow_32 : decode cX2_outNow 32 = .ok (.iconst 2, 1) := by decide +kernel
theorem dX2_outNow_33 : decode cX2_outNow 33 = .ok (.iaload, 1) := by decide +kernel
theorem dX2_outNow_34 : decode cX2_outNow 34 = .ok (.if_icmp .ge 10, 3) := by decide +kernel
theorem dX2_outNow_37 : decode cX2_outNow 37 = .ok (.aload_n 0, 1) := by decide +kernel
theorem dX2_outNow_38 : decode cX2_outNow 38 = .ok (.invokevirtual 46, 3) := by decide +kernel
theorem dX2_outNow_41 : decode cX2_outNow 41 = .ok (.goto 19, 3) := by decide +kernel
theorem dX2_outNow_44 : decode cX2_outNow 44 = .ok (.aload_n 0, 1) := by decide +kernel
theorem dX2_outNow_45 : decode cX2_outNow 45 = .ok (.getfield 7, 3) := by decide +kernel
theorem dX2_outNow_48 : decode cX2_outNow 48 = .ok (.bipush 26, 2) := by decide +kernel
theorem dX2_outNow_50 : decode cX2_outNow 50 = .ok (.iaload, 1) := by decide +kernel
theorem dX2_outNow_51 : decode cX2_outNow 51 = .ok (.sipush (-2000), 3) := by decide +kernel
theorem dX2_outNow_54 : decode cX2_outNow 54 = .ok (.sipush 2000, 3) := by decide +kernel
theorem dX2_outNow_57 : decode cX2_outNow 57 = .ok (.invokestatic 38, 3) := by decide +kernel
theorem dX2_outNow_60 : decode cX2_outNow 60 = .ok (.ireturn, 1) := by decide +kernel
set_option maxRecDepth 20000 in
theorem ggX2_tickOf_X2_shift : GoodIn wsX2_tickOf wsX2_shift := goodIn_r _ [6, 1, 57, 58, 59] (by decide +kernel) (by decide +kernel)
set_option maxRecDepth 20000 in
theorem gX2_tickOf_X2_shift : GoodIn wsX2_tickOf (wsV RX2 50 RX2 yX2_shift wsX2_shift) := goodIn_app (goodIn_of _ (by decide +kernel)) ggX2_tickOf_X2_shift
set_option maxRecDepth 20000 in
theorem ggX2_tickOf_X2_estimate : GoodIn wsX2_tickOf wsX2_estimate := goodIn_r _ [10, 1, 11, 12, 13, 5, 14, 57, 58, 59] (by decide +kernel) (by decide +kernel)
set_option maxRecDepth 20000 in
theorem gX2_tickOf_X2_estimate : GoodIn wsX2_tickOf (wsV RX2 54 RX2 yX2_estimate wsX2_estimate) := goodIn_app (goodIn_of _ (by decide +kernel)) ggX2_tickOf_X2_estimate
set_option maxRecDepth 20000 in
theorem ggX2_tickOf_X2_loud : GoodIn wsX2_tickOf wsX2_loud := goodIn_r _ [18, 1, 19, 20, 5, 21, 57, 58, 59] (by decide +kernel) (by decide +kernel)
set_option maxRecDepth 20000 in
theorem gX2_tickOf_X2_loud : GoodIn wsX2_tickOf (wsV RX2 57 RX2 yX2_loud wsX2_loud) := goodIn_app (goodIn_of _ (by decide +kernel)) ggX2_tickOf_X2_loud
set_option maxRecDepth 20000 in
theorem ggX2_tickOf_X2_power : GoodIn wsX2_tickOf wsX2_power := goodIn_r _ [25, 11, 12, 13, 5, 14, 1, 57, 58, 59] (by decide +kernel) (by decide +kernel)
set_option maxRecDepth 20000 in
theorem gX2_tickOf_X2_power : GoodIn wsX2_tickOf (wsV RX2 60 RX2 yX2_power wsX2_power) := goodIn_app (goodIn_of _ (by decide +kernel)) ggX2_tickOf_X2_power
set_option maxRecDepth 20000 in
theorem ggX2_tickOf_X2_size : GoodIn wsX2_tickOf wsX2_size := goodIn_r _ [21] (by decide +kernel) (by decide +kernel)
set_option maxRecDepth 20000 in
theorem gX2_tickOf_X2_size : GoodIn wsX2_tickOf (va_wsS RX2 31 yX2_size wsX2_size) := goodIn_app (goodIn_of _ (by decide +kernel)) ggX2_tickOf_X2_size
set_option maxRecDepth 20000 in
theorem ggX2_tickOf_X2_hold : GoodIn wsX2_tickOf wsX2_hold := goodIn_r _ [29, 1, 57, 58, 59] (by decide +kernel) (by decide +kernel)
set_option maxRecDepth 20000 in
theorem gX2_tickOf_X2_hold : GoodIn wsX2_tickOf (wsV RX2 63 RX2 yX2_hold wsX2_hold) := goodIn_app (goodIn_of _ (by decide +kernel)) ggX2_tickOf_X2_hold
set_option maxRecDepth 20000 in
theorem ggX2_tickOf_X2_tone : GoodIn wsX2_tickOf wsX2_tone := goodIn_r _ [33, 1, 34, 35, 36, 5, 37, 57, 58, 59] (by decide +kernel) (by decide +kernel)
set_option maxRecDepth 20000 in
theorem gX2_tickOf_X2_tone : GoodIn wsX2_tickOf (wsV RX2 66 RX2 yX2_tone wsX2_tone) := goodIn_app (goodIn_of _ (by decide +kernel)) ggX2_tickOf_X2_tone
set_option maxRecDepth 20000 in
theorem ggX2_tickOf_X2_learn : GoodIn wsX2_tickOf wsX2_learn := goodIn_r _ [41, 1, 11, 12, 13, 5, 14, 42, 43, 44, 57, 58, 59] (by decide +kernel) (by decide +kernel)
set_option maxRecDepth 20000 in
theorem gX2_tickOf_X2_learn : GoodIn wsX2_tickOf (wsV RX2 69 RX2 yX2_learn wsX2_learn) := goodIn_app (goodIn_of _ (by decide +kernel)) ggX2_tickOf_X2_learn
set_option maxRecDepth 20000 in
theorem ggX2_tickOf_X2_outNow : GoodIn wsX2_tickOf wsX2_outNow := goodIn_r _ [48, 1, 19, 20, 5, 21, 49, 50, 51, 52, 53, 54, 55, 56, 42, 43, 44, 57, 58, 59] (by decide +kernel) (by decide +kernel)
set_option maxRecDepth 20000 in
theorem gX2_tickOf_X2_outNow : GoodIn wsX2_tickOf (wsV RX2 72 RX2 yX2_outNow wsX2_outNow) := goodIn_app (goodIn_of _ (by decide +kernel)) ggX2_tickOf_X2_outNow
theorem dX2_tickOf_0 : decode cX2_tickOf 0 = .ok (.aload_n 0, 1) := by decide +kernel
theorem dX2_tickOf_1 : decode cX2_tickOf 1 = .ok (.bipush 33, 2) := by decide +kernel
theorem dX2_tickOf_3 : decode cX2_tickOf 3 = .ok (.bipush 40, 2) := by decide +kernel
theorem dX2_tickOf_5 : decode cX2_tickOf 5 = .ok (.iload_n 1, 1) := by decide +kernel
theorem dX2_tickOf_6 : decode cX2_tickOf 6 = .ok (.invokevirtual 50, 3) := by decide +kernel
theorem dX2_tickOf_9 : decode cX2_tickOf 9 = .ok (.aload_n 0, 1) := by decide +kernel
theorem dX2_tickOf_10 : decode cX2_tickOf 10 = .ok (.bipush 73, 2) := by decide +kernel
theorem dX2_tickOf_12 : decode cX2_tickOf 12 = .ok (.bipush 40, 2) := by decide +kernel
theorem dX2_tickOf_14 : decode cX2_tickOf 14 = .ok (.iload_n 2, 1) := by decide +kernel
theorem dX2_tickOf_15 : decode cX2_tickOf 15 = .ok (.invokevirtual 50, 3) := by decide +kernel
theorem dX2_tickOf_18 : decode cX2_tickOf 18 = .ok (.aload_n 0, 1) := by decide +kernel
theorem dX2_tickOf_19 : decode cX2_tickOf 19 = .ok (.getfield 7, 3) := by decide +kernel
theorem dX2_tickOf_22 : decode cX2_tickOf 22 = .ok (.bipush 24, 2) := by decide +kernel
theorem dX2_tickOf_24 : decode cX2_tickOf 24 = .ok (.dup2, 1) := by decide +kernel
theorem dX2_tickOf_25 : decode cX2_tickOf 25 = .ok (.iaload, 1) := by decide +kernel
theorem dX2_tickOf_26 : decode cX2_tickOf 26 = .ok (.iconst 1, 1) := by decide +kernel
theorem dX2_tickOf_27 : decode cX2_tickOf 27 = .ok (.iadd, 1) := by decide +kernel
theorem dX2_tickOf_28 : decode cX2_tickOf 28 = .ok (.iastore, 1) := by decide +kernel
theorem dX2_tickOf_29 : decode cX2_tickOf 29 = .ok (.aload_n 0, 1) := by decide +kernel
theorem dX2_tickOf_30 : decode cX2_tickOf 30 = .ok (.getfield 7, 3) := by decide +kernel
theorem dX2_tickOf_33 : decode cX2_tickOf 33 = .ok (.bipush 25, 2) := by decide +kernel
theorem dX2_tickOf_35 : decode cX2_tickOf 35 = .ok (.aload_n 0, 1) := by decide +kernel
theorem dX2_tickOf_36 : decode cX2_tickOf 36 = .ok (.invokevirtual 54, 3) := by decide +kernel
theorem dX2_tickOf_39 : decode cX2_tickOf 39 = .ok (.iastore, 1) := by decide +kernel
theorem dX2_tickOf_40 : decode cX2_tickOf 40 = .ok (.aload_n 0, 1) := by decide +kernel
theorem dX2_tickOf_41 : decode cX2_tickOf 41 = .ok (.getfield 7, 3) := by decide +kernel
theorem dX2_tickOf_44 : decode cX2_tickOf 44 = .ok (.bipush 26, 2) := by decide +kernel
theorem dX2_tickOf_46 : decode cX2_tickOf 46 = .ok (.iload_n 2, 1) := by decide +kernel
theorem dX2_tickOf_47 : decode cX2_tickOf 47 = .ok (.aload_n 0, 1) := by decide +kernel
theorem dX2_tickOf_48 : decode cX2_tickOf 48 = .ok (.getfield 7, 3) := by decide +kernel
theorem dX2_tickOf_51 : decode cX2_tickOf 51 = .ok (.bipush 25, 2) := by decide +kernel
theorem dX2_tickOf_53 : decode cX2_tickOf 53 = .ok (.iaload, 1) := by decide +kernel
theorem dX2_tickOf_54 : decode cX2_tickOf 54 = .ok (.isub, 1) := by decide +kernel
theorem dX2_tickOf_55 : decode cX2_tickOf 55 = .ok (.iastore, 1) := by decide +kernel
theorem dX2_tickOf_56 : decode cX2_tickOf 56 = .ok (.aload_n 0, 1) := by decide +kernel
theorem dX2_tickOf_57 : decode cX2_tickOf 57 = .ok (.getfield 7, 3) := by decide +kernel
theorem dX2_tickOf_60 : decode cX2_tickOf 60 = .ok (.bipush 28, 2) := by decide +kernel
theorem dX2_tickOf_62 : decode cX2_tickOf 62 = .ok (.aload_n 0, 1) := by decide +kernel
theorem dX2_tickOf_63 : decode cX2_tickOf 63 = .ok (.invokevirtual 57, 3) := by decide +kernel
theorem dX2_tickOf_66 : decode cX2_tickOf 66 = .ok (.iastore, 1) := by decide +kernel
theorem dX2_tickOf_67 : decode cX2_tickOf 67 = .ok (.aload_n 0, 1) := by decide +kernel
theorem dX2_tickOf_68 : decode cX2_tickOf 68 = .ok (.getfield 7, 3) := by decide +kernel
theorem dX2_tickOf_71 : decode cX2_tickOf 71 = .ok (.bipush 29, 2) := by decide +kernel
theorem dX2_tickOf_73 : decode cX2_tickOf 73 = .ok (.aload_n 0, 1) := by decide +kernel
theorem dX2_tickOf_74 : decode cX2_tickOf 74 = .ok (.invokevirtual 60, 3) := by decide +kernel
theorem dX2_tickOf_77 : decode cX2_tickOf 77 = .ok (.iastore, 1) := by decide +kernel
theorem dX2_tickOf_78 : decode cX2_tickOf 78 = .ok (.aload_n 0, 1) := by decide +kernel
theorem dX2_tickOf_79 : decode cX2_tickOf 79 = .ok (.getfield 7, 3) := by decide +kernel
theorem dX2_tickOf_82 : decode cX2_tickOf 82 = .ok (.bipush 30, 2) := by decide +kernel
theorem dX2_tickOf_84 : decode cX2_tickOf 84 = .ok (.iconst 2, 1) := by decide +kernel
theorem dX2_tickOf_85 : decode cX2_tickOf 85 = .ok (.iload_n 2, 1) := by decide +kernel
theorem dX2_tickOf_86 : decode cX2_tickOf 86 = .ok (.invokestatic 31, 3) := by decide +kernel
theorem dX2_tickOf_89 : decode cX2_tickOf 89 = .ok (.imul, 1) := by decide +kernel
theorem dX2_tickOf_90 : decode cX2_tickOf 90 = .ok (.aload_n 0, 1) := by decide +kernel
theorem dX2_tickOf_91 : decode cX2_tickOf 91 = .ok (.getfield 7, 3) := by decide +kernel
theorem dX2_tickOf_94 : decode cX2_tickOf 94 = .ok (.bipush 28, 2) := by decide +kernel
theorem dX2_tickOf_96 : decode cX2_tickOf 96 = .ok (.iaload, 1) := by decide +kernel
theorem dX2_tickOf_97 : decode cX2_tickOf 97 = .ok (.if_icmp .le 7, 3) := by decide +kernel
theorem dX2_tickOf_100 : decode cX2_tickOf 100 = .ok (.iconst 1, 1) := by decide +kernel
theorem dX2_tickOf_101 : decode cX2_tickOf 101 = .ok (.goto 4, 3) := by decide +kernel
theorem dX2_tickOf_104 : decode cX2_tickOf 104 = .ok (.iconst 0, 1) := by decide +kernel
theorem dX2_tickOf_105 : decode cX2_tickOf 105 = .ok (.iastore, 1) := by decide +kernel
theorem dX2_tickOf_106 : decode cX2_tickOf 106 = .ok (.aload_n 0, 1) := by decide +kernel
theorem dX2_tickOf_107 : decode cX2_tickOf 107 = .ok (.invokevirtual 63, 3) := by decide +kernel
theorem dX2_tickOf_110 : decode cX2_tickOf 110 = .ok (.aload_n 0, 1) := by decide +kernel
theorem dX2_tickOf_111 : decode cX2_tickOf 111 = .ok (.getfield 7, 3) := by decide +kernel
theorem dX2_tickOf_114 : decode cX2_tickOf 114 = .ok (.bipush 31, 2) := by decide +kernel
theorem dX2_tickOf_116 : decode cX2_tickOf 116 = .ok (.aload_n 0, 1) := by decide +kernel
theorem dX2_tickOf_117 : decode cX2_tickOf 117 = .ok (.invokevirtual 66, 3) := by decide +kernel
theorem dX2_tickOf_120 : decode cX2_tickOf 120 = .ok (.iastore, 1) := by decide +kernel
theorem dX2_tickOf_121 : decode cX2_tickOf 121 = .ok (.aload_n 0, 1) := by decide +kernel
theorem dX2_tickOf_122 : decode cX2_tickOf 122 = .ok (.getfield 7, 3) := by decide +kernel
theorem dX2_tickOf_125 : decode cX2_tickOf 125 = .ok (.bipush 22, 2) := by decide +kernel
theorem dX2_tickOf_127 : decode cX2_tickOf 127 = .ok (.iaload, 1) := by decide +kernel
theorem dX2_tickOf_128 : decode cX2_tickOf 128 = .ok (.ifCond .ne 27, 3) := by decide +kernel
theorem dX2_tickOf_131 : decode cX2_tickOf 131 = .ok (.aload_n 0, 1) := by decide +kernel
theorem dX2_tickOf_132 : decode cX2_tickOf 132 = .ok (.getfield 7, 3) := by decide +kernel
theorem dX2_tickOf_135 : decode cX2_tickOf 135 = .ok (.bipush 31, 2) := by decide +kernel
theorem dX2_tickOf_137 : decode cX2_tickOf 137 = .ok (.iaload, 1) := by decide +kernel
theorem dX2_tickOf_138 : decode cX2_tickOf 138 = .ok (.ifCond .ne 17, 3) := by decide +kernel
theorem dX2_tickOf_141 : decode cX2_tickOf 141 = .ok (.aload_n 0, 1) := by decide +kernel
theorem dX2_tickOf_142 : decode cX2_tickOf 142 = .ok (.getfield 7, 3) := by decide +kernel
theorem dX2_tickOf_145 : decode cX2_tickOf 145 = .ok (.bipush 29, 2) := by decide +kernel
theorem dX2_tickOf_147 : decode cX2_tickOf 147 = .ok (.iaload, 1) := by decide +kernel
theorem dX2_tickOf_148 : decode cX2_tickOf 148 = .ok (.ifCond .le 7, 3) := by decide +kernel
theorem dX2_tickOf_151 : decode cX2_tickOf 151 = .ok (.iconst 1, 1) := by decide +kernel
theorem dX2_tickOf_152 : decode cX2_tickOf 152 = .ok (.goto 4, 3) := by decide +kernel
theorem dX2_tickOf_155 : decode cX2_tickOf 155 = .ok (.iconst 0, 1) := by decide +kernel
theorem dX2_tickOf_156 : decode cX2_tickOf 156 = .ok (.istore_n 3, 1) := by decide +kernel
theorem dX2_tickOf_157 : decode cX2_tickOf 157 = .ok (.aload_n 0, 1) := by decide +kernel
theorem dX2_tickOf_158 : decode cX2_tickOf 158 = .ok (.getfield 7, 3) := by decide +kernel
theorem dX2_tickOf_161 : decode cX2_tickOf 161 = .ok (.bipush 32, 2) := by decide +kernel
theorem dX2_tickOf_163 : decode cX2_tickOf 163 = .ok (.iload_n 3, 1) := by decide +kernel
theorem dX2_tickOf_164 : decode cX2_tickOf 164 = .ok (.ifCond .eq 7, 3) := by decide +kernel
theorem dX2_tickOf_167 : decode cX2_tickOf 167 = .ok (.iconst 1, 1) := by decide +kernel
theorem dX2_tickOf_168 : decode cX2_tickOf 168 = .ok (.goto 4, 3) := by decide +kernel
theorem dX2_tickOf_171 : decode cX2_tickOf 171 = .ok (.iconst 0, 1) := by decide +kernel
theorem dX2_tickOf_172 : decode cX2_tickOf 172 = .ok (.iastore, 1) := by decide +kernel
theorem dX2_tickOf_173 : decode cX2_tickOf 173 = .ok (.iload_n 3, 1) := by decide +kernel
theorem dX2_tickOf_174 : decode cX2_tickOf 174 = .ok (.ifCond .eq 7, 3) := by decide +kernel
theorem dX2_tickOf_177 : decode cX2_tickOf 177 = .ok (.aload_n 0, 1) := by decide +kernel
theorem dX2_tickOf_178 : decode cX2_tickOf 178 = .ok (.invokevirtual 69, 3) := by decide +kernel
theorem dX2_tickOf_181 : decode cX2_tickOf 181 = .ok (.aload_n 0, 1) := by decide +kernel
theorem dX2_tickOf_182 : decode cX2_tickOf 182 = .ok (.getfield 7, 3) := by decide +kernel
theorem dX2_tickOf_185 : decode cX2_tickOf 185 = .ok (.bipush 27, 2) := by decide +kernel
theorem dX2_tickOf_187 : decode cX2_tickOf 187 = .ok (.aload_n 0, 1) := by decide +kernel
theorem dX2_tickOf_188 : decode cX2_tickOf 188 = .ok (.invokevirtual 72, 3) := by decide +kernel
theorem dX2_tickOf_191 : decode cX2_tickOf 191 = .ok (.iastore, 1) := by decide +kernel
theorem dX2_tickOf_192 : decode cX2_tickOf 192 = .ok (.aload_n 0, 1) := by decide +kernel
theorem dX2_tickOf_193 : decode cX2_tickOf 193 = .ok (.bipush 113, 2) := by decide +kernel
theorem dX2_tickOf_195 : decode cX2_tickOf 195 = .ok (.bipush 40, 2) := by decide +kernel
theorem dX2_tickOf_197 : decode cX2_tickOf 197 = .ok (.aload_n 0, 1) := by decide +kernel
theorem dX2_tickOf_198 : decode cX2_tickOf 198 = .ok (.getfield 7, 3) := by decide +kernel
theorem dX2_tickOf_201 : decode cX2_tickOf 201 = .ok (.bipush 27, 2) := by decide +kernel
theorem dX2_tickOf_203 : decode cX2_tickOf 203 = .ok (.iaload, 1) := by decide +kernel
theorem dX2_tickOf_204 : decode cX2_tickOf 204 = .ok (.invokevirtual 50, 3) := by decide +kernel
theorem dX2_tickOf_207 : decode cX2_tickOf 207 = .ok (.aload_n 0, 1) := by decide +kernel
theorem dX2_tickOf_208 : decode cX2_tickOf 208 = .ok (.sipush 153, 3) := by decide +kernel
theorem dX2_tickOf_211 : decode cX2_tickOf 211 = .ok (.sipush 201, 3) := by decide +kernel
theorem dX2_tickOf_214 : decode cX2_tickOf 214 = .ok (.aload_n 0, 1) := by decide +kernel
theorem dX2_tickOf_215 : decode cX2_tickOf 215 = .ok (.getfield 7, 3) := by decide +kernel
theorem dX2_tickOf_218 : decode cX2_tickOf 218 = .ok (.bipush 30, 2) := by decide +kernel
theorem dX2_tickOf_220 : decode cX2_tickOf 220 = .ok (.iaload, 1) := by decide +kernel
theorem dX2_tickOf_221 : decode cX2_tickOf 221 = .ok (.invokevirtual 50, 3) := by decide +kernel
theorem dX2_tickOf_224 : decode cX2_tickOf 224 = .ok (.aload_n 0, 1) := by decide +kernel
theorem dX2_tickOf_225 : decode cX2_tickOf 225 = .ok (.sipush 354, 3) := by decide +kernel
theorem dX2_tickOf_228 : decode cX2_tickOf 228 = .ok (.sipush 201, 3) := by decide +kernel
theorem dX2_tickOf_231 : decode cX2_tickOf 231 = .ok (.aload_n 0, 1) := by decide +kernel
theorem dX2_tickOf_232 : decode cX2_tickOf 232 = .ok (.getfield 7, 3) := by decide +kernel
theorem dX2_tickOf_235 : decode cX2_tickOf 235 = .ok (.bipush 31, 2) := by decide +kernel
theorem dX2_tickOf_237 : decode cX2_tickOf 237 = .ok (.iaload, 1) := by decide +kernel
theorem dX2_tickOf_238 : decode cX2_tickOf 238 = .ok (.ifCond .le 7, 3) := by decide +kernel
theorem dX2_tickOf_241 : decode cX2_tickOf 241 = .ok (.iconst 1, 1) := by decide +kernel
theorem dX2_tickOf_242 : decode cX2_tickOf 242 = .ok (.goto 4, 3) := by decide +kernel
theorem dX2_tickOf_245 : decode cX2_tickOf 245 = .ok (.iconst 0, 1) := by decide +kernel
theorem dX2_tickOf_246 : decode cX2_tickOf 246 = .ok (.invokevirtual 50, 3) := by decide +kernel
theorem dX2_tickOf_249 : decode cX2_tickOf 249 = .ok (.aload_n 0, 1) := by decide +kernel
theorem dX2_tickOf_250 : decode cX2_tickOf 250 = .ok (.getfield 7, 3) := by decide +kernel
theorem dX2_tickOf_253 : decode cX2_tickOf 253 = .ok (.bipush 27, 2) := by decide +kernel
theorem dX2_tickOf_255 : decode cX2_tickOf 255 = .ok (.iaload, 1) := by decide +kernel
theorem dX2_tickOf_256 : decode cX2_tickOf 256 = .ok (.ireturn, 1) := by decide +kernel
set_option maxRecDepth 20000 in
theorem ggX2_tick_X2_in : GoodIn wsX2_tick wsX2_in := goodIn_r _ [5] (by decide +kernel) (by decide +kernel)
set_option maxRecDepth 20000 in
theorem gX2_tick_X2_in : GoodIn wsX2_tick (va_wsS RX2 20 yX2_in wsX2_in) := goodIn_app (goodIn_of _ (by decide +kernel)) ggX2_tick_X2_in
set_option maxRecDepth 20000 in
theorem ggX2_tick_X2_tickOf : GoodIn wsX2_tick wsX2_tickOf := goodIn_r _ [9, 10, 11, 12, 13, 4, 14, 15, 16, 17, 18, 19, 20, 21, 22, 23, 24, 25, 26, 27, 28, 29, 30, 31, 32, 33, 34, 35, 36, 37, 38, 39, 40, 41, 42, 43, 44, 45, 46, 47, 48, 49, 50, 51, 52, 53, 54, 55, 56, 57, 58, 59, 60, 61, 62, 63, 64, 65, 66, 67] (by decide +kernel) (by decide +kernel)
set_option maxRecDepth 20000 in
theorem gX2_tick_X2_tickOf : GoodIn wsX2_tick (wsV RX2 75 RX2 yX2_tickOf wsX2_tickOf) := goodIn_app (goodIn_of _ (by decide +kernel)) ggX2_tick_X2_tickOf
theorem dX2_tick_0 : decode cX2_tick 0 = .ok (.iload_n 1, 1) := by decide +kernel
theorem dX2_tick_1 : decode cX2_tick 1 = .ok (.sipush (-1000), 3) := by decide +kernel
theorem dX2_tick_4 : decode cX2_tick 4 = .ok (.sipush 1000, 3) := by decide +kernel
theorem dX2_tick_7 : decode cX2_tick 7 = .ok (.invokestatic 20, 3) := by decide +kernel
theorem dX2_tick_10 : decode cX2_tick 10 = .ok (.ifCond .eq 25, 3) := by decide +kernel
theorem dX2_tick_13 : decode cX2_tick 13 = .ok (.iload_n 2, 1) := by decide +kernel
theorem dX2_tick_14 : decode cX2_tick 14 = .ok (.sipush (-2000), 3) := by decide +kernel
theorem dX2_tick_17 : decode cX2_tick 17 = .ok (.sipush 2000, 3) := by decide +kernel
theorem dX2_tick_20 : decode cX2_tick 20 = .ok (.invokestatic 20, 3) := by decide +kernel
theorem dX2_tick_23 : decode cX2_tick 23 = .ok (.ifCond .eq 12, 3) := by decide +kernel
theorem dX2_tick_26 : decode cX2_tick 26 = .ok (.aload_n 0, 1) := by decide +kernel
theorem dX2_tick_27 : decode cX2_tick 27 = .ok (.iload_n 1, 1) := by decide +kernel
theorem dX2_tick_28 : decode cX2_tick 28 = .ok (.iload_n 2, 1) := by decide +kernel
theorem dX2_tick_29 : decode cX2_tick 29 = .ok (.invokevirtual 75, 3) := by decide +kernel
theorem dX2_tick_32 : decode cX2_tick 32 = .ok (.goto 5, 3) := by decide +kernel
theorem dX2_tick_35 : decode cX2_tick 35 = .ok (.ldc 79, 2) := by decide +kernel
theorem dX2_tick_37 : decode cX2_tick 37 = .ok (.ireturn, 1) := by decide +kernel
set_option maxRecDepth 20000 in
theorem ggX2_tap_X2_in : GoodIn wsX2_tap wsX2_in := goodIn_r _ [6] (by decide +kernel) (by decide +kernel)
set_option maxRecDepth 20000 in
theorem gX2_tap_X2_in : GoodIn wsX2_tap (va_wsS RX2 20 yX2_in wsX2_in) := goodIn_app (goodIn_of _ (by decide +kernel)) ggX2_tap_X2_in
theorem dX2_tap_0 : decode cX2_tap 0 = .ok (.iload_n 1, 1) := by decide +kernel
theorem dX2_tap_1 : decode cX2_tap 1 = .ok (.iconst 0, 1) := by decide +kernel
theorem dX2_tap_2 : decode cX2_tap 2 = .ok (.bipush 7, 2) := by decide +kernel
theorem dX2_tap_4 : decode cX2_tap 4 = .ok (.invokestatic 20, 3) := by decide +kernel
theorem dX2_tap_7 : decode cX2_tap 7 = .ok (.ifCond .eq 14, 3) := by decide +kernel
theorem dX2_tap_10 : decode cX2_tap 10 = .ok (.aload_n 0, 1) := by decide +kernel
theorem dX2_tap_11 : decode cX2_tap 11 = .ok (.getfield 7, 3) := by decide +kernel
theorem dX2_tap_14 : decode cX2_tap 14 = .ok (.iconst 5, 1) := by decide +kernel
theorem dX2_tap_15 : decode cX2_tap 15 = .ok (.iload_n 1, 1) := by decide +kernel
theorem dX2_tap_16 : decode cX2_tap 16 = .ok (.iadd, 1) := by decide +kernel
theorem dX2_tap_17 : decode cX2_tap 17 = .ok (.iaload, 1) := by decide +kernel
theorem dX2_tap_18 : decode cX2_tap 18 = .ok (.goto 5, 3) := by decide +kernel
theorem dX2_tap_21 : decode cX2_tap 21 = .ok (.ldc 79, 2) := by decide +kernel
theorem dX2_tap_23 : decode cX2_tap 23 = .ok (.ireturn, 1) := by decide +kernel
set_option maxRecDepth 20000 in
theorem ggX2_last_X2_in : GoodIn wsX2_last wsX2_in := goodIn_r _ [7] (by decide +kernel) (by decide +kernel)
set_option maxRecDepth 20000 in
theorem gX2_last_X2_in : GoodIn wsX2_last (va_wsS RX2 20 yX2_in wsX2_in) := goodIn_app (goodIn_of _ (by decide +kernel)) ggX2_last_X2_in
theorem dX2_last_0 : decode cX2_last 0 = .ok (.iload_n 1, 1) := by decide +kernel
theorem dX2_last_1 : decode cX2_last 1 = .ok (.iconst 0, 1) := by decide +kernel
theorem dX2_last_2 : decode cX2_last 2 = .ok (.bipush 7, 2) := by decide +kernel
theorem dX2_last_4 : decode cX2_last 4 = .ok (.invokestatic 20, 3) := by decide +kernel
theorem dX2_last_7 : decode cX2_last 7 = .ok (.ifCond .ne 6, 3) := by decide +kernel
theorem dX2_last_10 : decode cX2_last 10 = .ok (.ldc 79, 2) := by decide +kernel
theorem dX2_last_12 : decode cX2_last 12 = .ok (.ireturn, 1) := by decide +kernel
theorem dX2_last_13 : decode cX2_last 13 = .ok (.aload_n 0, 1) := by decide +kernel
theorem dX2_last_14 : decode cX2_last 14 = .ok (.getfield 7, 3) := by decide +kernel
theorem dX2_last_17 : decode cX2_last 17 = .ok (.bipush 24, 2) := by decide +kernel
theorem dX2_last_19 : decode cX2_last 19 = .ok (.iaload, 1) := by decide +kernel
theorem dX2_last_20 : decode cX2_last 20 = .ok (.ifCond .ne 8, 3) := by decide +kernel
theorem dX2_last_23 : decode cX2_last 23 = .ok (.ldc 80, 2) := by decide +kernel
theorem dX2_last_25 : decode cX2_last 25 = .ok (.goto 12, 3) := by decide +kernel
theorem dX2_last_28 : decode cX2_last 28 = .ok (.aload_n 0, 1) := by decide +kernel
theorem dX2_last_29 : decode cX2_last 29 = .ok (.getfield 7, 3) := by decide +kernel
theorem dX2_last_32 : decode cX2_last 32 = .ok (.bipush 25, 2) := by decide +kernel
theorem dX2_last_34 : decode cX2_last 34 = .ok (.iload_n 1, 1) := by decide +kernel
theorem dX2_last_35 : decode cX2_last 35 = .ok (.iadd, 1) := by decide +kernel
theorem dX2_last_36 : decode cX2_last 36 = .ok (.iaload, 1) := by decide +kernel
theorem dX2_last_37 : decode cX2_last 37 = .ok (.ireturn, 1) := by decide +kernel
set_option maxRecDepth 20000 in
theorem ggX2_ago_X2_in : GoodIn wsX2_ago wsX2_in := goodIn_r _ [7] (by decide +kernel) (by decide +kernel)
set_option maxRecDepth 20000 in
theorem gX2_ago_X2_in : GoodIn wsX2_ago (va_wsS RX2 20 yX2_in wsX2_in) := goodIn_app (goodIn_of _ (by decide +kernel)) ggX2_ago_X2_in
theorem dX2_ago_0 : decode cX2_ago 0 = .ok (.iload_n 1, 1) := by decide +kernel
theorem dX2_ago_1 : decode cX2_ago 1 = .ok (.iconst 0, 1) := by decide +kernel
theorem dX2_ago_2 : decode cX2_ago 2 = .ok (.bipush 31, 2) := by decide +kernel
theorem dX2_ago_4 : decode cX2_ago 4 = .ok (.invokestatic 20, 3) := by decide +kernel
theorem dX2_ago_7 : decode cX2_ago 7 = .ok (.ifCond .eq 12, 3) := by decide +kernel
theorem dX2_ago_10 : decode cX2_ago 10 = .ok (.iload_n 2, 1) := by decide +kernel
theorem dX2_ago_11 : decode cX2_ago 11 = .ok (.iconst 0, 1) := by decide +kernel
theorem dX2_ago_12 : decode cX2_ago 12 = .ok (.iconst 2, 1) := by decide +kernel
theorem dX2_ago_13 : decode cX2_ago 13 = .ok (.invokestatic 20, 3) := by decide +kernel
theorem dX2_ago_16 : decode cX2_ago 16 = .ok (.ifCond .ne 6, 3) := by decide +kernel
theorem dX2_ago_19 : decode cX2_ago 19 = .ok (.ldc 79, 2) := by decide +kernel
theorem dX2_ago_21 : decode cX2_ago 21 = .ok (.ireturn, 1) := by decide +kernel
theorem dX2_ago_22 : decode cX2_ago 22 = .ok (.iload_n 1, 1) := by decide +kernel
theorem dX2_ago_23 : decode cX2_ago 23 = .ok (.aload_n 0, 1) := by decide +kernel
theorem dX2_ago_24 : decode cX2_ago 24 = .ok (.getfield 7, 3) := by decide +kernel
theorem dX2_ago_27 : decode cX2_ago 27 = .ok (.bipush 24, 2) := by decide +kernel
theorem dX2_ago_29 : decode cX2_ago 29 = .ok (.iaload, 1) := by decide +kernel
theorem dX2_ago_30 : decode cX2_ago 30 = .ok (.if_icmp .lt 8, 3) := by decide +kernel
theorem dX2_ago_33 : decode cX2_ago 33 = .ok (.ldc 81, 2) := by decide +kernel
theorem dX2_ago_35 : decode cX2_ago 35 = .ok (.goto 17, 3) := by decide +kernel
theorem dX2_ago_38 : decode cX2_ago 38 = .ok (.aload_n 0, 1) := by decide +kernel
theorem dX2_ago_39 : decode cX2_ago 39 = .ok (.getfield 7, 3) := by decide +kernel
theorem dX2_ago_42 : decode cX2_ago 42 = .ok (.bipush 33, 2) := by decide +kernel
theorem dX2_ago_44 : decode cX2_ago 44 = .ok (.bipush 40, 2) := by decide +kernel
theorem dX2_ago_46 : decode cX2_ago 46 = .ok (.iload_n 2, 1) := by decide +kernel
theorem dX2_ago_47 : decode cX2_ago 47 = .ok (.imul, 1) := by decide +kernel
theorem dX2_ago_48 : decode cX2_ago 48 = .ok (.iadd, 1) := by decide +kernel
theorem dX2_ago_49 : decode cX2_ago 49 = .ok (.iload_n 1, 1) := by decide +kernel
theorem dX2_ago_50 : decode cX2_ago 50 = .ok (.iadd, 1) := by decide +kernel
theorem dX2_ago_51 : decode cX2_ago 51 = .ok (.iaload, 1) := by decide +kernel
theorem dX2_ago_52 : decode cX2_ago 52 = .ok (.ireturn, 1) := by decide +kernel
set_option maxRecDepth 20000 in
theorem ggX2_part_X2_in : GoodIn wsX2_part wsX2_in := goodIn_r _ [6] (by decide +kernel) (by decide +kernel)
set_option maxRecDepth 20000 in
theorem gX2_part_X2_in : GoodIn wsX2_part (va_wsS RX2 20 yX2_in wsX2_in) := goodIn_app (goodIn_of _ (by decide +kernel)) ggX2_part_X2_in
theorem dX2_part_0 : decode cX2_part 0 = .ok (.iload_n 1, 1) := by decide +kernel
theorem dX2_part_1 : decode cX2_part 1 = .ok (.iconst 0, 1) := by decide +kernel
theorem dX2_part_2 : decode cX2_part 2 = .ok (.bipush 8, 2) := by decide +kernel
theorem dX2_part_4 : decode cX2_part 4 = .ok (.invokestatic 20, 3) := by decide +kernel
theorem dX2_part_7 : decode cX2_part 7 = .ok (.ifCond .eq 37, 3) := by decide +kernel
theorem dX2_part_10 : decode cX2_part 10 = .ok (.iload_n 2, 1) := by decide +kernel
theorem dX2_part_11 : decode cX2_part 11 = .ok (.iload_n 1, 1) := by decide +kernel
theorem dX2_part_12 : decode cX2_part 12 = .ok (.bipush 8, 2) := by decide +kernel
theorem dX2_part_14 : decode cX2_part 14 = .ok (.if_icmp .ne 7, 3) := by decide +kernel
theorem dX2_part_17 : decode cX2_part 17 = .ok (.iconst 0, 1) := by decide +kernel
