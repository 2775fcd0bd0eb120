theorem dX2_part_18 : decode cX2_part 18 = .ok (.goto 6, 3) := by decide +kernel
theorem dX2_part_21 : decode cX2_part 21 = .ok (.sipush (-1024), 3) := by decide +kernel
theorem dX2_part_24 : decode cX2_part 24 = .ok (.iload_n 1, 1) := by decide +kernel
theorem dX2_part_25 : decode cX2_part 25 = .ok (.bipush 8, 2) := by decide +kernel
theorem dX2_part_27 : decode cX2_part 27 = .ok (.if_icmp .ne 8, 3) := by decide +kernel
theorem dX2_part_30 : decode cX2_part 30 = .ok (.bipush 15, 2) := by decide +kernel
theorem dX2_part_32 : decode cX2_part 32 = .ok (.goto 6, 3) := by decide +kernel
theorem dX2_part_35 : decode cX2_part 35 = .ok (.sipush 1023, 3) := by decide +kernel
theorem dX2_part_38 : decode cX2_part 38 = .ok (.invokestatic 20, 3) := by decide +kernel
theorem dX2_part_41 : decode cX2_part 41 = .ok (.ifCond .ne 6, 3) := by decide +kernel
theorem dX2_part_44 : decode cX2_part 44 = .ok (.ldc 79, 2) := by decide +kernel
theorem dX2_part_46 : decode cX2_part 46 = .ok (.ireturn, 1) := by decide +kernel
theorem dX2_part_47 : decode cX2_part 47 = .ok (.aload_n 0, 1) := by decide +kernel
theorem dX2_part_48 : decode cX2_part 48 = .ok (.getfield 7, 3) := by decide +kernel
theorem dX2_part_51 : decode cX2_part 51 = .ok (.bipush 13, 2) := by decide +kernel
theorem dX2_part_53 : decode cX2_part 53 = .ok (.iload_n 1, 1) := by decide +kernel
theorem dX2_part_54 : decode cX2_part 54 = .ok (.iadd, 1) := by decide +kernel
theorem dX2_part_55 : decode cX2_part 55 = .ok (.iaload, 1) := by decide +kernel
theorem dX2_part_56 : decode cX2_part 56 = .ok (.istore_n 3, 1) := by decide +kernel
theorem dX2_part_57 : decode cX2_part 57 = .ok (.aload_n 0, 1) := by decide +kernel
theorem dX2_part_58 : decode cX2_part 58 = .ok (.getfield 7, 3) := by decide +kernel
theorem dX2_part_61 : decode cX2_part 61 = .ok (.bipush 13, 2) := by decide +kernel
theorem dX2_part_63 : decode cX2_part 63 = .ok (.iload_n 1, 1) := by decide +kernel
theorem dX2_part_64 : decode cX2_part 64 = .ok (.iadd, 1) := by decide +kernel
theorem dX2_part_65 : decode cX2_part 65 = .ok (.iload_n 2, 1) := by decide +kernel
theorem dX2_part_66 : decode cX2_part 66 = .ok (.iastore, 1) := by decide +kernel
theorem dX2_part_67 : decode cX2_part 67 = .ok (.iload_n 3, 1) := by decide +kernel
theorem dX2_part_68 : decode cX2_part 68 = .ok (.ireturn, 1) := by decide +kernel
theorem dX2_echo_0 : decode cX2_echo 0 = .ok (.iconst 0, 1) := by decide +kernel
theorem dX2_echo_1 : decode cX2_echo 1 = .ok (.istore_n 2, 1) := by decide +kernel
theorem dX2_echo_2 : decode cX2_echo 2 = .ok (.iconst 0, 1) := by decide +kernel
theorem dX2_echo_3 : decode cX2_echo 3 = .ok (.istore_n 3, 1) := by decide +kernel
theorem dX2_echo_4 : decode cX2_echo 4 = .ok (.iload_n 3, 1) := by decide +kernel
theorem dX2_echo_5 : decode cX2_echo 5 = .ok (.bipush 8, 2) := by decide +kernel
theorem dX2_echo_7 : decode cX2_echo 7 = .ok (.if_icmp .ge 54, 3) := by decide +kernel
theorem dX2_echo_10 : decode cX2_echo 10 = .ok (.iload_n 3, 1) := by decide +kernel
theorem dX2_echo_11 : decode cX2_echo 11 = .ok (.aload_n 0, 1) := by decide +kernel
theorem dX2_echo_12 : decode cX2_echo 12 = .ok (.getfield 7, 3) := by decide +kernel
theorem dX2_echo_15 : decode cX2_echo 15 = .ok (.bipush 21, 2) := by decide +kernel
theorem dX2_echo_17 : decode cX2_echo 17 = .ok (.iaload, 1) := by decide +kernel
theorem dX2_echo_18 : decode cX2_echo 18 = .ok (.iadd, 1) := by decide +kernel
theorem dX2_echo_19 : decode cX2_echo 19 = .ok (.istore 4, 2) := by decide +kernel
theorem dX2_echo_21 : decode cX2_echo 21 = .ok (.iload_n 2, 1) := by decide +kernel
theorem dX2_echo_22 : decode cX2_echo 22 = .ok (.aload_n 0, 1) := by decide +kernel
theorem dX2_echo_23 : decode cX2_echo 23 = .ok (.getfield 7, 3) := by decide +kernel
theorem dX2_echo_26 : decode cX2_echo 26 = .ok (.bipush 13, 2) := by decide +kernel
theorem dX2_echo_28 : decode cX2_echo 28 = .ok (.iload_n 3, 1) := by decide +kernel
theorem dX2_echo_29 : decode cX2_echo 29 = .ok (.iadd, 1) := by decide +kernel
theorem dX2_echo_30 : decode cX2_echo 30 = .ok (.iaload, 1) := by decide +kernel
theorem dX2_echo_31 : decode cX2_echo 31 = .ok (.iload 4, 2) := by decide +kernel
theorem dX2_echo_33 : decode cX2_echo 33 = .ok (.ifCond .ne 7, 3) := by decide +kernel
theorem dX2_echo_36 : decode cX2_echo 36 = .ok (.iload_n 1, 1) := by decide +kernel
theorem dX2_echo_37 : decode cX2_echo 37 = .ok (.goto 15, 3) := by decide +kernel
theorem dX2_echo_40 : decode cX2_echo 40 = .ok (.aload_n 0, 1) := by decide +kernel
theorem dX2_echo_41 : decode cX2_echo 41 = .ok (.getfield 7, 3) := by decide +kernel
theorem dX2_echo_44 : decode cX2_echo 44 = .ok (.bipush 33, 2) := by decide +kernel
theorem dX2_echo_46 : decode cX2_echo 46 = .ok (.iload 4, 2) := by decide +kernel
theorem dX2_echo_48 : decode cX2_echo 48 = .ok (.iadd, 1) := by decide +kernel
theorem dX2_echo_49 : decode cX2_echo 49 = .ok (.iconst 1, 1) := by decide +kernel
theorem dX2_echo_50 : decode cX2_echo 50 = .ok (.isub, 1) := by decide +kernel
theorem dX2_echo_51 : decode cX2_echo 51 = .ok (.iaload, 1) := by decide +kernel
theorem dX2_echo_52 : decode cX2_echo 52 = .ok (.imul, 1) := by decide +kernel
theorem dX2_echo_53 : decode cX2_echo 53 = .ok (.iadd, 1) := by decide +kernel
theorem dX2_echo_54 : decode cX2_echo 54 = .ok (.istore_n 2, 1) := by decide +kernel
theorem dX2_echo_55 : decode cX2_echo 55 = .ok (.iinc 3 1, 3) := by decide +kernel
theorem dX2_echo_58 : decode cX2_echo 58 = .ok (.goto (-54), 3) := by decide +kernel
theorem dX2_echo_61 : decode cX2_echo 61 = .ok (.iload_n 2, 1) := by decide +kernel
theorem dX2_echo_62 : decode cX2_echo 62 = .ok (.sipush 1024, 3) := by decide +kernel
theorem dX2_echo_65 : decode cX2_echo 65 = .ok (.idiv, 1) := by decide +kernel
theorem dX2_echo_66 : decode cX2_echo 66 = .ok (.ireturn, 1) := by decide +kernel
set_option maxRecDepth 20000 in
theorem ggX2_speakOf_X2_echo : GoodIn wsX2_speakOf wsX2_echo := goodIn_r _ [5, 6, 65, 66, 67] (by decide +kernel) (by decide +kernel)
set_option maxRecDepth 20000 in
theorem gX2_speakOf_X2_echo : GoodIn wsX2_speakOf (wsV RX2 82 RX2 yX2_echo wsX2_echo) := goodIn_app (goodIn_of _ (by decide +kernel)) ggX2_speakOf_X2_echo
set_option maxRecDepth 20000 in
theorem ggX2_speakOf_X2_within : GoodIn wsX2_speakOf wsX2_within := goodIn_r _ [9] (by decide +kernel) (by decide +kernel)
set_option maxRecDepth 20000 in
theorem gX2_speakOf_X2_within : GoodIn wsX2_speakOf (va_wsS RX2 38 yX2_within wsX2_within) := goodIn_app (goodIn_of _ (by decide +kernel)) ggX2_speakOf_X2_within
set_option maxRecDepth 20000 in
theorem ggX2_speakOf_X2_tickOf : GoodIn wsX2_speakOf wsX2_tickOf := goodIn_r _ [13, 6, 14, 15, 16, 4, 17, 18, 19, 20, 21, 22, 23, 24, 25, 26, 27, 28, 29, 30, 31, 32, 33, 34, 35, 36, 37, 38, 39, 40, 41, 42, 43, 44, 45, 46, 47, 48, 49, 50, 51, 52, 7, 8, 9, 53, 54, 55, 56, 57, 58, 59, 60, 61, 62, 63, 64, 65, 66, 67] (by decide +kernel) (by decide +kernel)
set_option maxRecDepth 20000 in
theorem gX2_speakOf_X2_tickOf : GoodIn wsX2_speakOf (wsV RX2 75 RX2 yX2_tickOf wsX2_tickOf) := goodIn_app (goodIn_of _ (by decide +kernel)) ggX2_speakOf_X2_tickOf
theorem dX2_speakOf_0 : decode cX2_speakOf 0 = .ok (.aload_n 0, 1) := by decide +kernel
theorem dX2_speakOf_1 : decode cX2_speakOf 1 = .ok (.iload_n 1, 1) := by decide +kernel
theorem dX2_speakOf_2 : decode cX2_speakOf 2 = .ok (.aload_n 0, 1) := by decide +kernel
theorem dX2_speakOf_3 : decode cX2_speakOf 3 = .ok (.iload_n 1, 1) := by decide +kernel
theorem dX2_speakOf_4 : decode cX2_speakOf 4 = .ok (.invokevirtual 82, 3) := by decide +kernel
theorem dX2_speakOf_7 : decode cX2_speakOf 7 = .ok (.iload_n 2, 1) := by decide +kernel
theorem dX2_speakOf_8 : decode cX2_speakOf 8 = .ok (.iadd, 1) := by decide +kernel
theorem dX2_speakOf_9 : decode cX2_speakOf 9 = .ok (.sipush (-2000), 3) := by decide +kernel
theorem dX2_speakOf_12 : decode cX2_speakOf 12 = .ok (.sipush 2000, 3) := by decide +kernel
theorem dX2_speakOf_15 : decode cX2_speakOf 15 = .ok (.invokestatic 38, 3) := by decide +kernel
theorem dX2_speakOf_18 : decode cX2_speakOf 18 = .ok (.invokevirtual 75, 3) := by decide +kernel
theorem dX2_speakOf_21 : decode cX2_speakOf 21 = .ok (.ireturn, 1) := by decide +kernel
set_option maxRecDepth 20000 in
theorem ggX2_speak_X2_in : GoodIn wsX2_speak wsX2_in := goodIn_r _ [5] (by decide +kernel) (by decide +kernel)
set_option maxRecDepth 20000 in
theorem gX2_speak_X2_in : GoodIn wsX2_speak (va_wsS RX2 20 yX2_in wsX2_in) := goodIn_app (goodIn_of _ (by decide +kernel)) ggX2_speak_X2_in
set_option maxRecDepth 20000 in
theorem ggX2_speak_X2_speakOf : GoodIn wsX2_speak wsX2_speakOf := goodIn_r _ [9, 10, 11, 12, 4, 13, 14, 15, 16, 17, 18, 19, 20, 21, 22, 23, 24, 25, 26, 27, 28, 29, 30, 31, 32, 33, 34, 35, 36, 37, 38, 39, 40, 41, 42, 43, 44, 45, 46, 47, 48, 49, 50, 51, 52, 53, 54, 55, 56, 57, 58, 59, 60, 61, 62, 63, 64, 65, 66, 67, 68, 69, 70, 71, 72, 73, 74, 75] (by decide +kernel) (by decide +kernel)
set_option maxRecDepth 20000 in
theorem gX2_speak_X2_speakOf : GoodIn wsX2_speak (wsV RX2 85 RX2 yX2_speakOf wsX2_speakOf) := goodIn_app (goodIn_of _ (by decide +kernel)) ggX2_speak_X2_speakOf
theorem dX2_speak_0 : decode cX2_speak 0 = .ok (.iload_n 1, 1) := by decide +kernel
theorem dX2_speak_1 : decode cX2_speak 1 = .ok (.sipush (-1000), 3) := by decide +kernel
theorem dX2_speak_4 : decode cX2_speak 4 = .ok (.sipush 1000, 3) := by decide +kernel
theorem dX2_speak_7 : decode cX2_speak 7 = .ok (.invokestatic 20, 3) := by decide +kernel
theorem dX2_speak_10 : decode cX2_speak 10 = .ok (.ifCond .eq 25, 3) := by decide +kernel
theorem dX2_speak_13 : decode cX2_speak 13 = .ok (.iload_n 2, 1) := by decide +kernel
theorem dX2_speak_14 : decode cX2_speak 14 = .ok (.sipush (-2000), 3) := by decide +kernel
theorem dX2_speak_17 : decode cX2_speak 17 = .ok (.sipush 2000, 3) := by decide +kernel
theorem dX2_speak_20 : decode cX2_speak 20 = .ok (.invokestatic 20, 3) := by decide +kernel
theorem dX2_speak_23 : decode cX2_speak 23 = .ok (.ifCond .eq 12, 3) := by decide +kernel
theorem dX2_speak_26 : decode cX2_speak 26 = .ok (.aload_n 0, 1) := by decide +kernel
theorem dX2_speak_27 : decode cX2_speak 27 = .ok (.iload_n 1, 1) := by decide +kernel
theorem dX2_speak_28 : decode cX2_speak 28 = .ok (.iload_n 2, 1) := by decide +kernel
theorem dX2_speak_29 : decode cX2_speak 29 = .ok (.invokevirtual 85, 3) := by decide +kernel
theorem dX2_speak_32 : decode cX2_speak 32 = .ok (.goto 5, 3) := by decide +kernel
theorem dX2_speak_35 : decode cX2_speak 35 = .ok (.ldc 79, 2) := by decide +kernel
theorem dX2_speak_37 : decode cX2_speak 37 = .ok (.ireturn, 1) := by decide +kernel
set_option maxRecDepth 20000 in
theorem ggX2_run_X2_in : GoodIn wsX2_run wsX2_in := goodIn_r _ [6] (by decide +kernel) (by decide +kernel)
set_option maxRecDepth 20000 in
theorem gX2_run_X2_in : GoodIn wsX2_run (va_wsS RX2 20 yX2_in wsX2_in) := goodIn_app (goodIn_of _ (by decide +kernel)) ggX2_run_X2_in
set_option maxRecDepth 20000 in
theorem ggX2_run_X2_next : GoodIn wsX2_run wsX2_next := goodIn_r _ [9, 10] (by decide +kernel) (by decide +kernel)
set_option maxRecDepth 20000 in
theorem gX2_run_X2_next : GoodIn wsX2_run (va_wsS RX2 43 yX2_next wsX2_next) := goodIn_app (goodIn_of _ (by decide +kernel)) ggX2_run_X2_next
set_option maxRecDepth 20000 in
theorem ggX2_run_X2_speakOf : GoodIn wsX2_run wsX2_speakOf := goodIn_r _ [14, 15, 16, 17, 5, 18, 2, 19, 20, 21, 22, 23, 24, 25, 26, 27, 28, 29, 30, 31, 32, 33, 34, 35, 36, 37, 38, 39, 40, 41, 42, 43, 44, 45, 46, 47, 48, 49, 50, 51, 52, 53, 54, 55, 56, 57, 58, 59, 60, 61, 62, 63, 64, 65, 66, 67, 68, 69, 70, 71, 72, 7, 8, 9, 10, 73, 74, 75] (by decide +kernel) (by decide +kernel)
set_option maxRecDepth 20000 in
theorem gX2_run_X2_speakOf : GoodIn wsX2_run (wsV RX2 85 RX2 yX2_speakOf wsX2_speakOf) := goodIn_app (goodIn_of _ (by decide +kernel)) ggX2_run_X2_speakOf
set_option maxRecDepth 20000 in
theorem ggX2_run_X2_size : GoodIn wsX2_run wsX2_size := goodIn_r _ [44] (by decide +kernel) (by decide +kernel)
set_option maxRecDepth 20000 in
theorem gX2_run_X2_size : GoodIn wsX2_run (va_wsS RX2 31 yX2_size wsX2_size) := goodIn_app (goodIn_of _ (by decide +kernel)) ggX2_run_X2_size
theorem dX2_run_0 : decode cX2_run 0 = .ok (.iload_n 1, 1) := by decide +kernel
theorem dX2_run_1 : decode cX2_run 1 = .ok (.iconst 0, 1) := by decide +kernel
theorem dX2_run_2 : decode cX2_run 2 = .ok (.ldc 88, 2) := by decide +kernel
theorem dX2_run_4 : decode cX2_run 4 = .ok (.invokestatic 20, 3) := by decide +kernel
theorem dX2_run_7 : decode cX2_run 7 = .ok (.ifCond .eq 24, 3) := by decide +kernel
theorem dX2_run_10 : decode cX2_run 10 = .ok (.iload_n 2, 1) := by decide +kernel
theorem dX2_run_11 : decode cX2_run 11 = .ok (.iconst 1, 1) := by decide +kernel
theorem dX2_run_12 : decode cX2_run 12 = .ok (.bipush 60, 2) := by decide +kernel
theorem dX2_run_14 : decode cX2_run 14 = .ok (.invokestatic 20, 3) := by decide +kernel
theorem dX2_run_17 : decode cX2_run 17 = .ok (.ifCond .eq 14, 3) := by decide +kernel
theorem dX2_run_20 : decode cX2_run 20 = .ok (.iload_n 3, 1) := by decide +kernel
theorem dX2_run_21 : decode cX2_run 21 = .ok (.iconst 0, 1) := by decide +kernel
theorem dX2_run_22 : decode cX2_run 22 = .ok (.sipush 1000, 3) := by decide +kernel
theorem dX2_run_25 : decode cX2_run 25 = .ok (.invokestatic 20, 3) := by decide +kernel
theorem dX2_run_28 : decode cX2_run 28 = .ok (.ifCond .ne 6, 3) := by decide +kernel
theorem dX2_run_31 : decode cX2_run 31 = .ok (.bipush (-2), 2) := by decide +kernel
theorem dX2_run_33 : decode cX2_run 33 = .ok (.ireturn, 1) := by decide +kernel
theorem dX2_run_34 : decode cX2_run 34 = .ok (.iload_n 1, 1) := by decide +kernel
theorem dX2_run_35 : decode cX2_run 35 = .ok (.istore 4, 2) := by decide +kernel
theorem dX2_run_37 : decode cX2_run 37 = .ok (.iconst 0, 1) := by decide +kernel
theorem dX2_run_38 : decode cX2_run 38 = .ok (.istore 5, 2) := by decide +kernel
theorem dX2_run_40 : decode cX2_run 40 = .ok (.iconst 0, 1) := by decide +kernel
theorem dX2_run_41 : decode cX2_run 41 = .ok (.istore 6, 2) := by decide +kernel
theorem dX2_run_43 : decode cX2_run 43 = .ok (.iload 6, 2) := by decide +kernel
theorem dX2_run_45 : decode cX2_run 45 = .ok (.iload_n 2, 1) := by decide +kernel
theorem dX2_run_46 : decode cX2_run 46 = .ok (.if_icmp .ge 47, 3) := by decide +kernel
theorem dX2_run_49 : decode cX2_run 49 = .ok (.iload 4, 2) := by decide +kernel
theorem dX2_run_51 : decode cX2_run 51 = .ok (.invokestatic 43, 3) := by decide +kernel
theorem dX2_run_54 : decode cX2_run 54 = .ok (.istore 4, 2) := by decide +kernel
theorem dX2_run_56 : decode cX2_run 56 = .ok (.aload_n 0, 1) := by decide +kernel
theorem dX2_run_57 : decode cX2_run 57 = .ok (.iload 4, 2) := by decide +kernel
theorem dX2_run_59 : decode cX2_run 59 = .ok (.iconst 2, 1) := by decide +kernel
theorem dX2_run_60 : decode cX2_run 60 = .ok (.iload_n 3, 1) := by decide +kernel
theorem dX2_run_61 : decode cX2_run 61 = .ok (.imul, 1) := by decide +kernel
theorem dX2_run_62 : decode cX2_run 62 = .ok (.iconst 1, 1) := by decide +kernel
theorem dX2_run_63 : decode cX2_run 63 = .ok (.iadd, 1) := by decide +kernel
theorem dX2_run_64 : decode cX2_run 64 = .ok (.irem, 1) := by decide +kernel
theorem dX2_run_65 : decode cX2_run 65 = .ok (.iload_n 3, 1) := by decide +kernel
theorem dX2_run_66 : decode cX2_run 66 = .ok (.isub, 1) := by decide +kernel
theorem dX2_run_67 : decode cX2_run 67 = .ok (.iconst 0, 1) := by decide +kernel
theorem dX2_run_68 : decode cX2_run 68 = .ok (.invokevirtual 85, 3) := by decide +kernel
theorem dX2_run_71 : decode cX2_run 71 = .ok (.pop, 1) := by decide +kernel
theorem dX2_run_72 : decode cX2_run 72 = .ok (.iload 5, 2) := by decide +kernel
theorem dX2_run_74 : decode cX2_run 74 = .ok (.aload_n 0, 1) := by decide +kernel
theorem dX2_run_75 : decode cX2_run 75 = .ok (.getfield 7, 3) := by decide +kernel
theorem dX2_run_78 : decode cX2_run 78 = .ok (.bipush 26, 2) := by decide +kernel
theorem dX2_run_80 : decode cX2_run 80 = .ok (.iaload, 1) := by decide +kernel
theorem dX2_run_81 : decode cX2_run 81 = .ok (.invokestatic 31, 3) := by decide +kernel
theorem dX2_run_84 : decode cX2_run 84 = .ok (.iadd, 1) := by decide +kernel
theorem dX2_run_85 : decode cX2_run 85 = .ok (.istore 5, 2) := by decide +kernel
theorem dX2_run_87 : decode cX2_run 87 = .ok (.iinc 6 1, 3) := by decide +kernel
theorem dX2_run_90 : decode cX2_run 90 = .ok (.goto (-47), 3) := by decide +kernel
theorem dX2_run_93 : decode cX2_run 93 = .ok (.iload 5, 2) := by decide +kernel
theorem dX2_run_95 : decode cX2_run 95 = .ok (.ireturn, 1) := by decide +kernel
theorem dX2_save_0 : decode cX2_save 0 = .ok (.iconst 0, 1) := by decide +kernel
theorem dX2_save_1 : decode cX2_save 1 = .ok (.istore_n 2, 1) := by decide +kernel
theorem dX2_save_2 : decode cX2_save 2 = .ok (.iload_n 2, 1) := by decide +kernel
theorem dX2_save_3 : decode cX2_save 3 = .ok (.sipush 555, 3) := by decide +kernel
theorem dX2_save_6 : decode cX2_save 6 = .ok (.if_icmp .ge 27, 3) := by decide +kernel
theorem dX2_save_9 : decode cX2_save 9 = .ok (.aload_n 0, 1) := by decide +kernel
theorem dX2_save_10 : decode cX2_save 10 = .ok (.getfield 13, 3) := by decide +kernel
theorem dX2_save_13 : decode cX2_save 13 = .ok (.sipush 555, 3) := by decide +kernel
theorem dX2_save_16 : decode cX2_save 16 = .ok (.iload_n 1, 1) := by decide +kernel
theorem dX2_save_17 : decode cX2_save 17 = .ok (.imul, 1) := by decide +kernel
theorem dX2_save_18 : decode cX2_save 18 = .ok (.iload_n 2, 1) := by decide +kernel
theorem dX2_save_19 : decode cX2_save 19 = .ok (.iadd, 1) := by decide +kernel
theorem dX2_save_20 : decode cX2_save 20 = .ok (.aload_n 0, 1) := by decide +kernel
theorem dX2_save_21 : decode cX2_save 21 = .ok (.getfield 7, 3) := by decide +kernel
theorem dX2_save_24 : decode cX2_save 24 = .ok (.iload_n 2, 1) := by decide +kernel
theorem dX2_save_25 : decode cX2_save 25 = .ok (.iaload, 1) := by decide +kernel
theorem dX2_save_26 : decode cX2_save 26 = .ok (.iastore, 1) := by decide +kernel
theorem dX2_save_27 : decode cX2_save 27 = .ok (.iinc 2 1, 3) := by decide +kernel
theorem dX2_save_30 : decode cX2_save 30 = .ok (.goto (-28), 3) := by decide +kernel
theorem dX2_save_33 : decode cX2_save 33 = .ok (.return_, 1) := by decide +kernel
theorem dX2_load_0 : decode cX2_load 0 = .ok (.iconst 0, 1) := by decide +kernel
theorem dX2_load_1 : decode cX2_load 1 = .ok (.istore_n 2, 1) := by decide +kernel
theorem dX2_load_2 : decode cX2_load 2 = .ok (.iload_n 2, 1) := by decide +kernel
theorem dX2_load_3 : decode cX2_load 3 = .ok (.sipush 555, 3) := by decide +kernel
theorem dX2_load_6 : decode cX2_load 6 = .ok (.if_icmp .ge 27, 3) := by decide +kernel
theorem dX2_load_9 : decode cX2_load 9 = .ok (.aload_n 0, 1) := by decide +kernel
theorem dX2_load_10 : decode cX2_load 10 = .ok (.getfield 7, 3) := by decide +kernel
theorem dX2_load_13 : decode cX2_load 13 = .ok (.iload_n 2, 1) := by decide +kernel
theorem dX2_load_14 : decode cX2_load 14 = .ok (.aload_n 0, 1) := by decide +kernel
theorem dX2_load_15 : decode cX2_load 15 = .ok (.getfield 13, 3) := by decide +kernel
theorem dX2_load_18 : decode cX2_load 18 = .ok (.sipush 555, 3) := by decide +kernel
theorem dX2_load_21 : decode cX2_load 21 = .ok (.iload_n 1, 1) := by decide +kernel
theorem dX2_load_22 : decode cX2_load 22 = .ok (.imul, 1) := by decide +kernel
theorem dX2_load_23 : decode cX2_load 23 = .ok (.iload_n 2, 1) := by decide +kernel
theorem dX2_load_24 : decode cX2_load 24 = .ok (.iadd, 1) := by decide +kernel
theorem dX2_load_25 : decode cX2_load 25 = .ok (.iaload, 1) := by decide +kernel
theorem dX2_load_26 : decode cX2_load 26 = .ok (.iastore, 1) := by decide +kernel
theorem dX2_load_27 : decode cX2_load 27 = .ok (.iinc 2 1, 3) := by decide +kernel
theorem dX2_load_30 : decode cX2_load 30 = .ok (.goto (-28), 3) := by decide +kernel
theorem dX2_load_33 : decode cX2_load 33 = .ok (.return_, 1) := by decide +kernel
set_option maxRecDepth 20000 in
theorem ggX2_learnt_X2_in : GoodIn wsX2_learnt wsX2_in := goodIn_r _ [6] (by decide +kernel) (by decide +kernel)
set_option maxRecDepth 20000 in
theorem gX2_learnt_X2_in : GoodIn wsX2_learnt (va_wsS RX2 20 yX2_in wsX2_in) := goodIn_app (goodIn_of _ (by decide +kernel)) ggX2_learnt_X2_in
set_option maxRecDepth 20000 in
theorem ggX2_learnt_X2_save : GoodIn wsX2_learnt wsX2_save := goodIn_r _ [10, 11, 2, 82, 83, 84] (by decide +kernel) (by decide +kernel)
set_option maxRecDepth 20000 in
theorem gX2_learnt_X2_save : GoodIn wsX2_learnt (wsV RX2 89 RX2 yX2_save wsX2_save) := goodIn_app (goodIn_of _ (by decide +kernel)) ggX2_learnt_X2_save
set_option maxRecDepth 20000 in
theorem ggX2_learnt_X2_next : GoodIn wsX2_learnt wsX2_next := goodIn_r _ [14, 15] (by decide +kernel) (by decide +kernel)
set_option maxRecDepth 20000 in
theorem gX2_learnt_X2_next : GoodIn wsX2_learnt (va_wsS RX2 43 yX2_next wsX2_next) := goodIn_app (goodIn_of _ (by decide +kernel)) ggX2_learnt_X2_next
set_option maxRecDepth 20000 in
theorem ggX2_learnt_X2_speakOf : GoodIn wsX2_learnt wsX2_speakOf := goodIn_r _ [19, 20, 21, 22, 5, 23, 2, 24, 25, 26, 27, 28, 29, 30, 31, 32, 33, 34, 35, 36, 37, 38, 39, 40, 41, 42, 43, 44, 45, 46, 47, 48, 49, 50, 51, 52, 53, 54, 55, 56, 57, 58, 59, 60, 61, 62, 63, 64, 65, 66, 67, 68, 69, 70, 71, 72, 73, 74, 75, 76, 77, 12, 13, 14, 15, 82, 83, 84] (by decide +kernel) (by decide +kernel)
set_option maxRecDepth 20000 in
theorem gX2_learnt_X2_speakOf : GoodIn wsX2_learnt (wsV RX2 85 RX2 yX2_speakOf wsX2_speakOf) := goodIn_app (goodIn_of _ (by decide +kernel)) ggX2_learnt_X2_speakOf
set_option maxRecDepth 20000 in
theorem ggX2_learnt_X2_size : GoodIn wsX2_learnt wsX2_size := goodIn_r _ [49] (by decide +kernel) (by decide +kernel)
set_option maxRecDepth 20000 in
theorem gX2_learnt_X2_size : GoodIn wsX2_learnt (va_wsS RX2 31 yX2_size wsX2_size) := goodIn_app (goodIn_of _ (by decide +kernel)) ggX2_learnt_X2_size
set_option maxRecDepth 20000 in
theorem ggX2_learnt_X2_load : GoodIn wsX2_learnt wsX2_load := goodIn_r _ [81, 2, 11, 82, 83, 84] (by decide +kernel) (by decide +kernel)
set_option maxRecDepth 20000 in
theorem gX2_learnt_X2_load : GoodIn wsX2_learnt (wsV RX2 93 RX2 yX2_load wsX2_load) := goodIn_app (goodIn_of _ (by decide +kernel)) ggX2_learnt_X2_load
theorem dX2_learnt_0 : decode cX2_learnt 0 = .ok (.iload_n 1, 1) := by decide +kernel
theorem dX2_learnt_1 : decode cX2_learnt 1 = .ok (.iconst 0, 1) := by decide +kernel
theorem dX2_learnt_2 : decode cX2_learnt 2 = .ok (.ldc 88, 2) := by decide +kernel
theorem dX2_learnt_4 : decode cX2_learnt 4 = .ok (.invokestatic 20, 3) := by decide +kernel
theorem dX2_learnt_7 : decode cX2_learnt 7 = .ok (.ifCond .eq 25, 3) := by decide +kernel
theorem dX2_learnt_10 : decode cX2_learnt 10 = .ok (.iload_n 2, 1) := by decide +kernel
theorem dX2_learnt_11 : decode cX2_learnt 11 = .ok (.iconst 0, 1) := by decide +kernel
theorem dX2_learnt_12 : decode cX2_learnt 12 = .ok (.sipush 1000, 3) := by decide +kernel
theorem dX2_learnt_15 : decode cX2_learnt 15 = .ok (.invokestatic 20, 3) := by decide +kernel
theorem dX2_learnt_18 : decode cX2_learnt 18 = .ok (.ifCond .eq 14, 3) := by decide +kernel
theorem dX2_learnt_21 : decode cX2_learnt 21 = .ok (.iload_n 3, 1) := by decide +kernel
theorem dX2_learnt_22 : decode cX2_learnt 22 = .ok (.iconst 0, 1) := by decide +kernel
theorem dX2_learnt_23 : decode cX2_learnt 23 = .ok (.sipush 999, 3) := by decide +kernel
theorem dX2_learnt_26 : decode cX2_learnt 26 = .ok (.invokestatic 20, 3) := by decide +kernel
theorem dX2_learnt_29 : decode cX2_learnt 29 = .ok (.ifCond .ne 6, 3) := by decide +kernel
theorem dX2_learnt_32 : decode cX2_learnt 32 = .ok (.bipush (-2), 2) := by decide +kernel
theorem dX2_learnt_34 : decode cX2_learnt 34 = .ok (.ireturn, 1) := by decide +kernel
theorem dX2_learnt_35 : decode cX2_learnt 35 = .ok (.aload_n 0, 1) := by decide +kernel
theorem dX2_learnt_36 : decode cX2_learnt 36 = .ok (.iconst 2, 1) := by decide +kernel
theorem dX2_learnt_37 : decode cX2_learnt 37 = .ok (.invokevirtual 89, 3) := by decide +kernel
theorem dX2_learnt_40 : decode cX2_learnt 40 = .ok (.iload_n 1, 1) := by decide +kernel
theorem dX2_learnt_41 : decode cX2_learnt 41 = .ok (.istore 4, 2) := by decide +kernel
theorem dX2_learnt_43 : decode cX2_learnt 43 = .ok (.iconst 0, 1) := by decide +kernel
theorem dX2_learnt_44 : decode cX2_learnt 44 = .ok (.istore 5, 2) := by decide +kernel
theorem dX2_learnt_46 : decode cX2_learnt 46 = .ok (.iconst 0, 1) := by decide +kernel
theorem dX2_learnt_47 : decode cX2_learnt 47 = .ok (.istore 6, 2) := by decide +kernel
theorem dX2_learnt_49 : decode cX2_learnt 49 = .ok (.iload 5, 2) := by decide +kernel
theorem dX2_learnt_51 : decode cX2_learnt 51 = .ok (.sipush 200, 3) := by decide +kernel
theorem dX2_learnt_54 : decode cX2_learnt 54 = .ok (.if_icmp .ge 63, 3) := by decide +kernel
theorem dX2_learnt_57 : decode cX2_learnt 57 = .ok (.iload 6, 2) := by decide +kernel
theorem dX2_learnt_59 : decode cX2_learnt 59 = .ok (.bipush 8, 2) := by decide +kernel
theorem dX2_learnt_61 : decode cX2_learnt 61 = .ok (.if_icmp .ge 56, 3) := by decide +kernel
theorem dX2_learnt_64 : decode cX2_learnt 64 = .ok (.iload 4, 2) := by decide +kernel
theorem dX2_learnt_66 : decode cX2_learnt 66 = .ok (.invokestatic 43, 3) := by decide +kernel
theorem dX2_learnt_69 : decode cX2_learnt 69 = .ok (.istore 4, 2) := by decide +kernel
theorem dX2_learnt_71 : decode cX2_learnt 71 = .ok (.aload_n 0, 1) := by decide +kernel
theorem dX2_learnt_72 : decode cX2_learnt 72 = .ok (.iload 4, 2) := by decide +kernel
theorem dX2_learnt_74 : decode cX2_learnt 74 = .ok (.iconst 2, 1) := by decide +kernel
theorem dX2_learnt_75 : decode cX2_learnt 75 = .ok (.iload_n 2, 1) := by decide +kernel
theorem dX2_learnt_76 : decode cX2_learnt 76 = .ok (.imul, 1) := by decide +kernel
theorem dX2_learnt_77 : decode cX2_learnt 77 = .ok (.iconst 1, 1) := by decide +kernel
theorem dX2_learnt_78 : decode cX2_learnt 78 = .ok (.iadd, 1) := by decide +kernel
theorem dX2_learnt_79 : decode cX2_learnt 79 = .ok (.irem, 1) := by decide +kernel
theorem dX2_learnt_80 : decode cX2_learnt 80 = .ok (.iload_n 2, 1) := by decide +kernel
theorem dX2_learnt_81 : decode cX2_learnt 81 = .ok (.isub, 1) := by decide +kernel
theorem dX2_learnt_82 : decode cX2_learnt 82 = .ok (.iconst 0, 1) := by decide +kernel
theorem dX2_learnt_83 : decode cX2_learnt 83 = .ok (.invokevirtual 85, 3) := by decide +kernel
theorem dX2_learnt_86 : decode cX2_learnt 86 = .ok (.pop, 1) := by decide +kernel
theorem dX2_learnt_87 : decode cX2_learnt 87 = .ok (.aload_n 0, 1) := by decide +kernel
theorem dX2_learnt_88 : decode cX2_learnt 88 = .ok (.getfield 7, 3) := by decide +kernel
theorem dX2_learnt_91 : decode cX2_learnt 91 = .ok (.bipush 26, 2) := by decide +kernel
theorem dX2_learnt_93 : decode cX2_learnt 93 = .ok (.iaload, 1) := by decide +kernel
theorem dX2_learnt_94 : decode cX2_learnt 94 = .ok (.invokestatic 31, 3) := by decide +kernel
theorem dX2_learnt_97 : decode cX2_learnt 97 = .ok (.iload_n 3, 1) := by decide +kernel
theorem dX2_learnt_98 : decode cX2_learnt 98 = .ok (.if_icmp .gt 10, 3) := by decide +kernel
theorem dX2_learnt_101 : decode cX2_learnt 101 = .ok (.iload 6, 2) := by decide +kernel
theorem dX2_learnt_103 : decode cX2_learnt 103 = .ok (.iconst 1, 1) := by decide +kernel
theorem dX2_learnt_104 : decode cX2_learnt 104 = .ok (.iadd, 1) := by decide +kernel
theorem dX2_learnt_105 : decode cX2_learnt 105 = .ok (.goto 4, 3) := by decide +kernel
theorem dX2_learnt_108 : decode cX2_learnt 108 = .ok (.iconst 0, 1) := by decide +kernel
theorem dX2_learnt_109 : decode cX2_learnt 109 = .ok (.istore 6, 2) := by decide +kernel
theorem dX2_learnt_111 : decode cX2_learnt 111 = .ok (.iinc 5 1, 3) := by decide +kernel
theorem dX2_learnt_114 : decode cX2_learnt 114 = .ok (.goto (-65), 3) := by decide +kernel
theorem dX2_learnt_117 : decode cX2_learnt 117 = .ok (.aload_n 0, 1) := by decide +kernel
theorem dX2_learnt_118 : decode cX2_learnt 118 = .ok (.iconst 2, 1) := by decide +kernel
theorem dX2_learnt_119 : decode cX2_learnt 119 = .ok (.invokevirtual 93, 3) := by decide +kernel
theorem dX2_learnt_122 : decode cX2_learnt 122 = .ok (.iload 6, 2) := by decide +kernel
theorem dX2_learnt_124 : decode cX2_learnt 124 = .ok (.bipush 8, 2) := by decide +kernel
theorem dX2_learnt_126 : decode cX2_learnt 126 = .ok (.if_icmp .ne 8, 3) := by decide +kernel
theorem dX2_learnt_129 : decode cX2_learnt 129 = .ok (.iload 5, 2) := by decide +kernel
theorem dX2_learnt_131 : decode cX2_learnt 131 = .ok (.goto 5, 3) := by decide +kernel
theorem dX2_learnt_134 : decode cX2_learnt 134 = .ok (.bipush (-6), 2) := by decide +kernel
theorem dX2_learnt_136 : decode cX2_learnt 136 = .ok (.ireturn, 1) := by decide +kernel
theorem dX2_likenessOf_0 : decode cX2_likenessOf 0 = .ok (.iconst 0, 1) := by decide +kernel
theorem dX2_likenessOf_1 : decode cX2_likenessOf 1 = .ok (.istore_n 2, 1) := by decide +kernel
theorem dX2_likenessOf_2 : decode cX2_likenessOf 2 = .ok (.iconst 0, 1) := by decide +kernel
theorem dX2_likenessOf_3 : decode cX2_likenessOf 3 = .ok (.istore_n 3, 1) := by decide +kernel
theorem dX2_likenessOf_4 : decode cX2_likenessOf 4 = .ok (.iload_n 3, 1) := by decide +kernel
theorem dX2_likenessOf_5 : decode cX2_likenessOf 5 = .ok (.bipush 24, 2) := by decide +kernel
theorem dX2_likenessOf_7 : decode cX2_likenessOf 7 = .ok (.if_icmp .ge 33, 3) := by decide +kernel
theorem dX2_likenessOf_10 : decode cX2_likenessOf 10 = .ok (.iload_n 2, 1) := by decide +kernel
theorem dX2_likenessOf_11 : decode cX2_likenessOf 11 = .ok (.aload_n 0, 1) := by decide +kernel
theorem dX2_likenessOf_12 : decode cX2_likenessOf 12 = .ok (.getfield 7, 3) := by decide +kernel
theorem dX2_likenessOf_15 : decode cX2_likenessOf 15 = .ok (.bipush 73, 2) := by decide +kernel
theorem dX2_likenessOf_17 : decode cX2_likenessOf 17 = .ok (.iload_n 3, 1) := by decide +kernel
theorem dX2_likenessOf_18 : decode cX2_likenessOf 18 = .ok (.iadd, 1) := by decide +kernel
theorem dX2_likenessOf_19 : decode cX2_likenessOf 19 = .ok (.iaload, 1) := by decide +kernel
theorem dX2_likenessOf_20 : decode cX2_likenessOf 20 = .ok (.aload_n 0, 1) := by decide +kernel
theorem dX2_likenessOf_21 : decode cX2_likenessOf 21 = .ok (.getfield 7, 3) := by decide +kernel
theorem dX2_likenessOf_24 : decode cX2_likenessOf 24 = .ok (.bipush 33, 2) := by decide +kernel
theorem dX2_likenessOf_26 : decode cX2_likenessOf 26 = .ok (.iload_n 3, 1) := by decide +kernel
theorem dX2_likenessOf_27 : decode cX2_likenessOf 27 = .ok (.iadd, 1) := by decide +kernel
theorem dX2_likenessOf_28 : decode cX2_likenessOf 28 = .ok (.iload_n 1, 1) := by decide +kernel
theorem dX2_likenessOf_29 : decode cX2_likenessOf 29 = .ok (.iadd, 1) := by decide +kernel
theorem dX2_likenessOf_30 : decode cX2_likenessOf 30 = .ok (.iaload, 1) := by decide +kernel
theorem dX2_likenessOf_31 : decode cX2_likenessOf 31 = .ok (.imul, 1) := by decide +kernel
theorem dX2_likenessOf_32 : decode cX2_likenessOf 32 = .ok (.iadd, 1) := by decide +kernel
theorem dX2_likenessOf_33 : decode cX2_likenessOf 33 = .ok (.istore_n 2, 1) := by decide +kernel
theorem dX2_likenessOf_34 : decode cX2_likenessOf 34 = .ok (.iinc 3 1, 3) := by decide +kernel
theorem dX2_likenessOf_37 : decode cX2_likenessOf 37 = .ok (.goto (-33), 3) := by decide +kernel
theorem dX2_likenessOf_40 : decode cX2_likenessOf 40 = .ok (.iload_n 2, 1) := by decide +kernel
theorem dX2_likenessOf_41 : decode cX2_likenessOf 41 = .ok (.ireturn, 1) := by decide +kernel
set_option maxRecDepth 20000 in
theorem ggX2_likeness_X2_in : GoodIn wsX2_likeness wsX2_in := goodIn_r _ [5] (by decide +kernel) (by decide +kernel)
set_option maxRecDepth 20000 in
theorem gX2_likeness_X2_in : GoodIn wsX2_likeness (va_wsS RX2 20 yX2_in wsX2_in) := goodIn_app (goodIn_of _ (by decide +kernel)) ggX2_likeness_X2_in
set_option maxRecDepth 20000 in
theorem ggX2_likeness_X2_likenessOf : GoodIn wsX2_likeness wsX2_likenessOf := goodIn_r _ [9, 10, 11, 12, 13] (by decide +kernel) (by decide +kernel)
set_option maxRecDepth 20000 in
theorem gX2_likeness_X2_likenessOf : GoodIn wsX2_likeness (wsV RX2 96 RX2 yX2_likenessOf wsX2_likenessOf) := goodIn_app (goodIn_of _ (by decide +kernel)) ggX2_likeness_X2_likenessOf
theorem dX2_likeness_0 : decode cX2_likeness 0 = .ok (.iload_n 1, 1) := by decide +kernel
theorem dX2_likeness_1 : decode cX2_likeness 1 = .ok (.iconst 0, 1) := by decide +kernel
theorem dX2_likeness_2 : decode cX2_likeness 2 = .ok (.bipush 15, 2) := by decide +kernel
theorem dX2_likeness_4 : decode cX2_likeness 4 = .ok (.invokestatic 20, 3) := by decide +kernel
theorem dX2_likeness_7 : decode cX2_likeness 7 = .ok (.ifCond .eq 11, 3) := by decide +kernel
theorem dX2_likeness_10 : decode cX2_likeness 10 = .ok (.aload_n 0, 1) := by decide +kernel
theorem dX2_likeness_11 : decode cX2_likeness 11 = .ok (.iload_n 1, 1) := by decide +kernel
theorem dX2_likeness_12 : decode cX2_likeness 12 = .ok (.invokevirtual 96, 3) := by decide +kernel
theorem dX2_likeness_15 : decode cX2_likeness 15 = .ok (.goto 5, 3) := by decide +kernel
theorem dX2_likeness_18 : decode cX2_likeness 18 = .ok (.ldc 79, 2) := by decide +kernel
theorem dX2_likeness_20 : decode cX2_likeness 20 = .ok (.ireturn, 1) := by decide +kernel
set_option maxRecDepth 20000 in
theorem ggX2_seek_X2_likenessOf : GoodIn wsX2_seek wsX2_likenessOf := goodIn_r _ [6, 1, 10, 11, 12] (by decide +kernel) (by decide +kernel)
set_option maxRecDepth 20000 in
theorem gX2_seek_X2_likenessOf : GoodIn wsX2_seek (wsV RX2 96 RX2 yX2_likenessOf wsX2_likenessOf) := goodIn_app (goodIn_of _ (by decide +kernel)) ggX2_seek_X2_likenessOf
set_option maxRecDepth 20000 in
theorem ggX2_seek_X2_size : GoodIn wsX2_seek wsX2_size := goodIn_r _ [9] (by decide +kernel) (by decide +kernel)
set_option maxRecDepth 20000 in
theorem gX2_seek_X2_size : GoodIn wsX2_seek (va_wsS RX2 31 yX2_size wsX2_size) := goodIn_app (goodIn_of _ (by decide +kernel)) ggX2_seek_X2_size
theorem dX2_seek_0 : decode cX2_seek 0 = .ok (.iconst 0, 1) := by decide +kernel
theorem dX2_seek_1 : decode cX2_seek 1 = .ok (.istore_n 1, 1) := by decide +kernel
theorem dX2_seek_2 : decode cX2_seek 2 = .ok (.iconst 1, 1) := by decide +kernel
theorem dX2_seek_3 : decode cX2_seek 3 = .ok (.istore_n 2, 1) := by decide +kernel
theorem dX2_seek_4 : decode cX2_seek 4 = .ok (.iload_n 2, 1) := by decide +kernel
theorem dX2_seek_5 : decode cX2_seek 5 = .ok (.bipush 15, 2) := by decide +kernel
theorem dX2_seek_7 : decode cX2_seek 7 = .ok (.if_icmp .gt 34, 3) := by decide +kernel
theorem dX2_seek_10 : decode cX2_seek 10 = .ok (.aload_n 0, 1) := by decide +kernel
theorem dX2_seek_11 : decode cX2_seek 11 = .ok (.iload_n 2, 1) := by decide +kernel
theorem dX2_seek_12 : decode cX2_seek 12 = .ok (.invokevirtual 96, 3) := by decide +kernel
theorem dX2_seek_15 : decode cX2_seek 15 = .ok (.invokestatic 31, 3) := by decide +kernel
theorem dX2_seek_18 : decode cX2_seek 18 = .ok (.aload_n 0, 1) := by decide +kernel
theorem dX2_seek_19 : decode cX2_seek 19 = .ok (.iload_n 1, 1) := by decide +kernel
theorem dX2_seek_20 : decode cX2_seek 20 = .ok (.invokevirtual 96, 3) := by decide +kernel
theorem dX2_seek_23 : decode cX2_seek 23 = .ok (.invokestatic 31, 3) := by decide +kernel
theorem dX2_seek_26 : decode cX2_seek 26 = .ok (.if_icmp .le 7, 3) := by decide +kernel
theorem dX2_seek_29 : decode cX2_seek 29 = .ok (.iload_n 2, 1) := by decide +kernel
theorem dX2_seek_30 : decode cX2_seek 30 = .ok (.goto 4, 3) := by decide +kernel
theorem dX2_seek_33 : decode cX2_seek 33 = .ok (.iload_n 1, 1) := by decide +kernel
theorem dX2_seek_34 : decode cX2_seek 34 = .ok (.istore_n 1, 1) := by decide +kernel
theorem dX2_seek_35 : decode cX2_seek 35 = .ok (.iinc 2 1, 3) := by decide +kernel
theorem dX2_seek_38 : decode cX2_seek 38 = .ok (.goto (-34), 3) := by decide +kernel
theorem dX2_seek_41 : decode cX2_seek 41 = .ok (.aload_n 0, 1) := by decide +kernel
theorem dX2_seek_42 : decode cX2_seek 42 = .ok (.iload_n 1, 1) := by decide +kernel
theorem dX2_seek_43 : decode cX2_seek 43 = .ok (.invokevirtual 96, 3) := by decide +kernel
theorem dX2_seek_46 : decode cX2_seek 46 = .ok (.ifCond .ne 6, 3) := by decide +kernel
theorem dX2_seek_49 : decode cX2_seek 49 = .ok (.bipush (-3), 2) := by decide +kernel
theorem dX2_seek_51 : decode cX2_seek 51 = .ok (.ireturn, 1) := by decide +kernel
theorem dX2_seek_52 : decode cX2_seek 52 = .ok (.aload_n 0, 1) := by decide +kernel
theorem dX2_seek_53 : decode cX2_seek 53 = .ok (.getfield 7, 3) := by decide +kernel
theorem dX2_seek_56 : decode cX2_seek 56 = .ok (.iconst 4, 1) := by decide +kernel
theorem dX2_seek_57 : decode cX2_seek 57 = .ok (.iload_n 1, 1) := by decide +kernel
theorem dX2_seek_58 : decode cX2_seek 58 = .ok (.iastore, 1) := by decide +kernel
theorem dX2_seek_59 : decode cX2_seek 59 = .ok (.iconst 0, 1) := by decide +kernel
theorem dX2_seek_60 : decode cX2_seek 60 = .ok (.istore_n 2, 1) := by decide +kernel
theorem dX2_seek_61 : decode cX2_seek 61 = .ok (.iload_n 2, 1) := by decide +kernel
theorem dX2_seek_62 : decode cX2_seek 62 = .ok (.bipush 8, 2) := by decide +kernel
theorem dX2_seek_64 : decode cX2_seek 64 = .ok (.if_icmp .ge 18, 3) := by decide +kernel
theorem dX2_seek_67 : decode cX2_seek 67 = .ok (.aload_n 0, 1) := by decide +kernel
theorem dX2_seek_68 : decode cX2_seek 68 = .ok (.getfield 7, 3) := by decide +kernel
theorem dX2_seek_71 : decode cX2_seek 71 = .ok (.iconst 5, 1) := by decide +kernel
theorem dX2_seek_72 : decode cX2_seek 72 = .ok (.iload_n 2, 1) := by decide +kernel
theorem dX2_seek_73 : decode cX2_seek 73 = .ok (.iadd, 1) := by decide +kernel
theorem dX2_seek_74 : decode cX2_seek 74 = .ok (.iconst 0, 1) := by decide +kernel
theorem dX2_seek_75 : decode cX2_seek 75 = .ok (.iastore, 1) := by decide +kernel
theorem dX2_seek_76 : decode cX2_seek 76 = .ok (.iinc 2 1, 3) := by decide +kernel
theorem dX2_seek_79 : decode cX2_seek 79 = .ok (.goto (-18), 3) := by decide +kernel
theorem dX2_seek_82 : decode cX2_seek 82 = .ok (.iload_n 1, 1) := by decide +kernel
theorem dX2_seek_83 : decode cX2_seek 83 = .ok (.ireturn, 1) := by decide +kernel
theorem dX2_squares_0 : decode cX2_squares 0 = .ok (.iconst 0, 1) := by decide +kernel
theorem dX2_squares_1 : decode cX2_squares 1 = .ok (.istore_n 2, 1) := by decide +kernel
theorem dX2_squares_2 : decode cX2_squares 2 = .ok (.iconst 0, 1) := by decide +kernel
theorem dX2_squares_3 : decode cX2_squares 3 = .ok (.istore_n 3, 1) := by decide +kernel
theorem dX2_squares_4 : decode cX2_squares 4 = .ok (.iload_n 3, 1) := by decide +kernel
theorem dX2_squares_5 : decode cX2_squares 5 = .ok (.bipush 32, 2) := by decide +kernel
theorem dX2_squares_7 : decode cX2_squares 7 = .ok (.if_icmp .ge 29, 3) := by decide +kernel
theorem dX2_squares_10 : decode cX2_squares 10 = .ok (.iload_n 2, 1) := by decide +kernel
theorem dX2_squares_11 : decode cX2_squares 11 = .ok (.aload_n 0, 1) := by decide +kernel
theorem dX2_squares_12 : decode cX2_squares 12 = .ok (.getfield 7, 3) := by decide +kernel
theorem dX2_squares_15 : decode cX2_squares 15 = .ok (.iload_n 1, 1) := by decide +kernel
theorem dX2_squares_16 : decode cX2_squares 16 = .ok (.iload_n 3, 1) := by decide +kernel
theorem dX2_squares_17 : decode cX2_squares 17 = .ok (.iadd, 1) := by decide +kernel
theorem dX2_squares_18 : decode cX2_squares 18 = .ok (.iaload, 1) := by decide +kernel
theorem dX2_squares_19 : decode cX2_squares 19 = .ok (.aload_n 0, 1) := by decide +kernel
theorem dX2_squares_20 : decode cX2_squares 20 = .ok (.getfield 7, 3) := by decide +kernel
theorem dX2_squares_23 : decode cX2_squares 23 = .ok (.iload_n 1, 1) := by decide +kernel
theorem dX2_squares_24 : decode cX2_squares 24 = .ok (.iload_n 3, 1) := by decide +kernel
theorem dX2_squares_25 : decode cX2_squares 25 = .ok (.iadd, 1) := by decide +kernel
theorem dX2_squares_26 : decode cX2_squares 26 = .ok (.iaload, 1) := by decide +kernel
theorem dX2_squares_27 : decode cX2_squares 27 = .ok (.imul, 1) := by decide +kernel
theorem dX2_squares_28 : decode cX2_squares 28 = .ok (.iadd, 1) := by decide +kernel
theorem dX2_squares_29 : decode cX2_squares 29 = .ok (.istore_n 2, 1) := by decide +kernel
theorem dX2_squares_30 : decode cX2_squares 30 = .ok (.iinc 3 1, 3) := by decide +kernel
theorem dX2_squares_33 : decode cX2_squares 33 = .ok (.goto (-29), 3) := by decide +kernel
theorem dX2_squares_36 : decode cX2_squares 36 = .ok (.iload_n 2, 1) := by decide +kernel
theorem dX2_squares_37 : decode cX2_squares 37 = .ok (.ireturn, 1) := by decide +kernel
theorem dX2_common_0 : decode cX2_common 0 = .ok (.iload_n 0, 1) := by decide +kernel
theorem dX2_common_1 : decode cX2_common 1 = .ok (.istore_n 2, 1) := by decide +kernel
theorem dX2_common_2 : decode cX2_common 2 = .ok (.iload_n 1, 1) := by decide +kernel
theorem dX2_common_3 : decode cX2_common 3 = .ok (.istore_n 3, 1) := by decide +kernel
theorem dX2_common_4 : decode cX2_common 4 = .ok (.iload_n 3, 1) := by decide +kernel
theorem dX2_common_5 : decode cX2_common 5 = .ok (.ifCond .eq 16, 3) := by decide +kernel
theorem dX2_common_8 : decode cX2_common 8 = .ok (.iload_n 2, 1) := by decide +kernel
theorem dX2_common_9 : decode cX2_common 9 = .ok (.iload_n 3, 1) := by decide +kernel
theorem dX2_common_10 : decode cX2_common 10 = .ok (.irem, 1) := by decide +kernel
theorem dX2_common_11 : decode cX2_common 11 = .ok (.istore 4, 2) := by decide +kernel
theorem dX2_common_13 : decode cX2_common 13 = .ok (.iload_n 3, 1) := by decide +kernel
theorem dX2_common_14 : decode cX2_common 14 = .ok (.istore_n 2, 1) := by decide +kernel
theorem dX2_common_15 : decode cX2_common 15 = .ok (.iload 4, 2) := by decide +kernel
theorem dX2_common_17 : decode cX2_common 17 = .ok (.istore_n 3, 1) := by decide +kernel
theorem dX2_common_18 : decode cX2_common 18 = .ok (.goto (-14), 3) := by decide +kernel
theorem dX2_common_21 : decode cX2_common 21 = .ok (.iload_n 2, 1) := by decide +kernel
theorem dX2_common_22 : decode cX2_common 22 = .ok (.ireturn, 1) := by decide +kernel
set_option maxRecDepth 20000 in
theorem ggX2_gain_X2_in : GoodIn wsX2_gain wsX2_in := goodIn_r _ [4] (by decide +kernel) (by decide +kernel)
set_option maxRecDepth 20000 in
theorem gX2_gain_X2_in : GoodIn wsX2_gain (va_wsS RX2 20 yX2_in wsX2_in) := goodIn_app (goodIn_of _ (by decide +kernel)) ggX2_gain_X2_in
set_option maxRecDepth 20000 in
theorem ggX2_gain_X2_squares : GoodIn wsX2_gain wsX2_squares := goodIn_r _ [8, 9, 13, 14, 15] (by decide +kernel) (by decide +kernel)
set_option maxRecDepth 20000 in
theorem gX2_gain_X2_squares : GoodIn wsX2_gain (wsV RX2 99 RX2 yX2_squares wsX2_squares) := goodIn_app (goodIn_of _ (by decide +kernel)) ggX2_gain_X2_squares
set_option maxRecDepth 20000 in
theorem ggX2_gain_X2_common : GoodIn wsX2_gain wsX2_common := goodIn_r _ [12] (by decide +kernel) (by decide +kernel)
set_option maxRecDepth 20000 in
theorem gX2_gain_X2_common : GoodIn wsX2_gain (va_wsS RX2 102 yX2_common wsX2_common) := goodIn_app (goodIn_of _ (by decide +kernel)) ggX2_gain_X2_common
theorem dX2_gain_0 : decode cX2_gain 0 = .ok (.iload_n 1, 1) := by decide +kernel
theorem dX2_gain_1 : decode cX2_gain 1 = .ok (.iconst 0, 1) := by decide +kernel
theorem dX2_gain_2 : decode cX2_gain 2 = .ok (.iconst 1, 1) := by decide +kernel
theorem dX2_gain_3 : decode cX2_gain 3 = .ok (.invokestatic 20, 3) := by decide +kernel
theorem dX2_gain_6 : decode cX2_gain 6 = .ok (.ifCond .ne 6, 3) := by decide +kernel
theorem dX2_gain_9 : decode cX2_gain 9 = .ok (.bipush (-2), 2) := by decide +kernel
theorem dX2_gain_11 : decode cX2_gain 11 = .ok (.ireturn, 1) := by decide +kernel
theorem dX2_gain_12 : decode cX2_gain 12 = .ok (.aload_n 0, 1) := by decide +kernel
theorem dX2_gain_13 : decode cX2_gain 13 = .ok (.bipush 73, 2) := by decide +kernel
theorem dX2_gain_15 : decode cX2_gain 15 = .ok (.invokevirtual 99, 3) := by decide +kernel
theorem dX2_gain_18 : decode cX2_gain 18 = .ok (.istore_n 2, 1) := by decide +kernel
theorem dX2_gain_19 : decode cX2_gain 19 = .ok (.aload_n 0, 1) := by decide +kernel
theorem dX2_gain_20 : decode cX2_gain 20 = .ok (.bipush 113, 2) := by decide +kernel
theorem dX2_gain_22 : decode cX2_gain 22 = .ok (.invokevirtual 99, 3) := by decide +kernel
theorem dX2_gain_25 : decode cX2_gain 25 = .ok (.istore_n 3, 1) := by decide +kernel
theorem dX2_gain_26 : decode cX2_gain 26 = .ok (.iload_n 3, 1) := by decide +kernel
theorem dX2_gain_27 : decode cX2_gain 27 = .ok (.ifCond .ne 6, 3) := by decide +kernel
theorem dX2_gain_30 : decode cX2_gain 30 = .ok (.bipush (-3), 2) := by decide +kernel
theorem dX2_gain_32 : decode cX2_gain 32 = .ok (.ireturn, 1) := by decide +kernel
theorem dX2_gain_33 : decode cX2_gain 33 = .ok (.iload_n 1, 1) := by decide +kernel
theorem dX2_gain_34 : decode cX2_gain 34 = .ok (.ifCond .ne 7, 3) := by decide +kernel
theorem dX2_gain_37 : decode cX2_gain 37 = .ok (.iload_n 2, 1) := by decide +kernel
theorem dX2_gain_38 : decode cX2_gain 38 = .ok (.goto 4, 3) := by decide +kernel
theorem dX2_gain_41 : decode cX2_gain 41 = .ok (.iload_n 3, 1) := by decide +kernel
theorem dX2_gain_42 : decode cX2_gain 42 = .ok (.iload_n 3, 1) := by decide +kernel
theorem dX2_gain_43 : decode cX2_gain 43 = .ok (.iload_n 2, 1) := by decide +kernel
theorem dX2_gain_44 : decode cX2_gain 44 = .ok (.invokestatic 102, 3) := by decide +kernel
theorem dX2_gain_47 : decode cX2_gain 47 = .ok (.idiv, 1) := by decide +kernel
theorem dX2_gain_48 : decode cX2_gain 48 = .ok (.ireturn, 1) := by decide +kernel
set_option maxRecDepth 20000 in
theorem ggX2_began_X2_in : GoodIn wsX2_began wsX2_in := goodIn_r _ [5] (by decide +kernel) (by decide +kernel)
set_option maxRecDepth 20000 in
theorem gX2_began_X2_in : GoodIn wsX2_began (va_wsS RX2 20 yX2_in wsX2_in) := goodIn_app (goodIn_of _ (by decide +kernel)) ggX2_began_X2_in
theorem dX2_began_0 : decode cX2_began 0 = .ok (.iload_n 2, 1) := by decide +kernel
theorem dX2_began_1 : decode cX2_began 1 = .ok (.iconst 0, 1) := by decide +kernel
theorem dX2_began_2 : decode cX2_began 2 = .ok (.iconst 1, 1) := by decide +kernel
theorem dX2_began_3 : decode cX2_began 3 = .ok (.invokestatic 20, 3) := by decide +kernel
theorem dX2_began_6 : decode cX2_began 6 = .ok (.ifCond .ne 6, 3) := by decide +kernel
theorem dX2_began_9 : decode cX2_began 9 = .ok (.bipush (-2), 2) := by decide +kernel
theorem dX2_began_11 : decode cX2_began 11 = .ok (.ireturn, 1) := by decide +kernel
theorem dX2_began_12 : decode cX2_began 12 = .ok (.iload_n 2, 1) := by decide +kernel
theorem dX2_began_13 : decode cX2_began 13 = .ok (.ifCond .ne 9, 3) := by decide +kernel
theorem dX2_began_16 : decode cX2_began 16 = .ok (.sipush 153, 3) := by decide +kernel
theorem dX2_began_19 : decode cX2_began 19 = .ok (.goto 6, 3) := by decide +kernel
theorem dX2_began_22 : decode cX2_began 22 = .ok (.sipush 354, 3) := by decide +kernel
theorem dX2_began_25 : decode cX2_began 25 = .ok (.istore_n 3, 1) := by decide +kernel
theorem dX2_began_26 : decode cX2_began 26 = .ok (.aload_n 0, 1) := by decide +kernel
theorem dX2_began_27 : decode cX2_began 27 = .ok (.getfield 7, 3) := by decide +kernel
theorem dX2_began_30 : decode cX2_began 30 = .ok (.bipush 24, 2) := by decide +kernel
theorem dX2_began_32 : decode cX2_began 32 = .ok (.iaload, 1) := by decide +kernel
theorem dX2_began_33 : decode cX2_began 33 = .ok (.sipush 200, 3) := by decide +kernel
theorem dX2_began_36 : decode cX2_began 36 = .ok (.if_icmp .ge 13, 3) := by decide +kernel
theorem dX2_began_39 : decode cX2_began 39 = .ok (.aload_n 0, 1) := by decide +kernel
theorem dX2_began_40 : decode cX2_began 40 = .ok (.getfield 7, 3) := by decide +kernel
theorem dX2_began_43 : decode cX2_began 43 = .ok (.bipush 24, 2) := by decide +kernel
theorem dX2_began_45 : decode cX2_began 45 = .ok (.iaload, 1) := by decide +kernel
theorem dX2_began_46 : decode cX2_began 46 = .ok (.goto 6, 3) := by decide +kernel
theorem dX2_began_49 : decode cX2_began 49 = .ok (.sipush 200, 3) := by decide +kernel
theorem dX2_began_52 : decode cX2_began 52 = .ok (.istore 4, 2) := by decide +kernel
theorem dX2_began_54 : decode cX2_began 54 = .ok (.iconst 0, 1) := by decide +kernel
theorem dX2_began_55 : decode cX2_began 55 = .ok (.istore 5, 2) := by decide +kernel
theorem dX2_began_57 : decode cX2_began 57 = .ok (.iload 4, 2) := by decide +kernel
theorem dX2_began_59 : decode cX2_began 59 = .ok (.iconst 1, 1) := by decide +kernel
theorem dX2_began_60 : decode cX2_began 60 = .ok (.isub, 1) := by decide +kernel
theorem dX2_began_61 : decode cX2_began 61 = .ok (.istore 6, 2) := by decide +kernel
theorem dX2_began_63 : decode cX2_began 63 = .ok (.iload 6, 2) := by decide +kernel
theorem dX2_began_65 : decode cX2_began 65 = .ok (.ifCond .lt 56, 3) := by decide +kernel
theorem dX2_began_68 : decode cX2_began 68 = .ok (.aload_n 0, 1) := by decide +kernel
theorem dX2_began_69 : decode cX2_began 69 = .ok (.getfield 7, 3) := by decide +kernel
theorem dX2_began_72 : decode cX2_began 72 = .ok (.iload_n 3, 1) := by decide +kernel
theorem dX2_began_73 : decode cX2_began 73 = .ok (.iload 6, 2) := by decide +kernel
theorem dX2_began_75 : decode cX2_began 75 = .ok (.iadd, 1) := by decide +kernel
theorem dX2_began_76 : decode cX2_began 76 = .ok (.iaload, 1) := by decide +kernel
theorem dX2_began_77 : decode cX2_began 77 = .ok (.iconst 1, 1) := by decide +kernel
theorem dX2_began_78 : decode cX2_began 78 = .ok (.if_icmp .ne 37, 3) := by decide +kernel
theorem dX2_began_81 : decode cX2_began 81 = .ok (.aload_n 0, 1) := by decide +kernel
theorem dX2_began_82 : decode cX2_began 82 = .ok (.getfield 7, 3) := by decide +kernel
theorem dX2_began_85 : decode cX2_began 85 = .ok (.iload_n 3, 1) := by decide +kernel
theorem dX2_began_86 : decode cX2_began 86 = .ok (.iload 6, 2) := by decide +kernel
theorem dX2_began_88 : decode cX2_began 88 = .ok (.iadd, 1) := by decide +kernel
theorem dX2_began_89 : decode cX2_began 89 = .ok (.iconst 1, 1) := by decide +kernel
theorem dX2_began_90 : decode cX2_began 90 = .ok (.iadd, 1) := by decide +kernel
theorem dX2_began_91 : decode cX2_began 91 = .ok (.iaload, 1) := by decide +kernel
theorem dX2_began_92 : decode cX2_began 92 = .ok (.ifCond .ne 23, 3) := by decide +kernel
theorem dX2_began_95 : decode cX2_began 95 = .ok (.iload 5, 2) := by decide +kernel
theorem dX2_began_97 : decode cX2_began 97 = .ok (.iload_n 1, 1) := by decide +kernel
theorem dX2_began_98 : decode cX2_began 98 = .ok (.if_icmp .ne 14, 3) := by decide +kernel
theorem dX2_began_101 : decode cX2_began 101 = .ok (.aload_n 0, 1) := by decide +kernel
theorem dX2_began_102 : decode cX2_began 102 = .ok (.getfield 7, 3) := by decide +kernel
theorem dX2_began_105 : decode cX2_began 105 = .ok (.bipush 24, 2) := by decide +kernel
theorem dX2_began_107 : decode cX2_began 107 = .ok (.iaload, 1) := by decide +kernel
theorem dX2_began_108 : decode cX2_began 108 = .ok (.iload 6, 2) := by decide +kernel
theorem dX2_began_110 : decode cX2_began 110 = .ok (.isub, 1) := by decide +kernel
theorem dX2_began_111 : decode cX2_began 111 = .ok (.ireturn, 1) := by decide +kernel
theorem dX2_began_112 : decode cX2_began 112 = .ok (.iinc 5 1, 3) := by decide +kernel
theorem dX2_began_115 : decode cX2_began 115 = .ok (.iinc 6 (-1), 3) := by decide +kernel
theorem dX2_began_118 : decode cX2_began 118 = .ok (.goto (-55), 3) := by decide +kernel
theorem dX2_began_121 : decode cX2_began 121 = .ok (.iload_n 1, 1) := by decide +kernel
theorem dX2_began_122 : decode cX2_began 122 = .ok (.iconst (-1), 1) := by decide +kernel
theorem dX2_began_123 : decode cX2_began 123 = .ok (.if_icmp .ne 8, 3) := by decide +kernel
theorem dX2_began_126 : decode cX2_began 126 = .ok (.iload 5, 2) := by decide +kernel
theorem dX2_began_128 : decode cX2_began 128 = .ok (.goto 5, 3) := by decide +kernel
theorem dX2_began_131 : decode cX2_began 131 = .ok (.bipush (-6), 2) := by decide +kernel
theorem dX2_began_133 : decode cX2_began 133 = .ok (.ireturn, 1) := by decide +kernel
set_option maxRecDepth 20000 in
theorem ggX2_image_X2_in : GoodIn wsX2_image wsX2_in := goodIn_r _ [5] (by decide +kernel) (by decide +kernel)
set_option maxRecDepth 20000 in
theorem gX2_image_X2_in : GoodIn wsX2_image (va_wsS RX2 20 yX2_in wsX2_in) := goodIn_app (goodIn_of _ (by decide +kernel)) ggX2_image_X2_in
set_option maxRecDepth 20000 in
theorem ggX2_image_X2_save : GoodIn wsX2_image wsX2_save := goodIn_r _ [9, 10, 11, 12, 13, 14] (by decide +kernel) (by decide +kernel)
set_option maxRecDepth 20000 in
theorem gX2_image_X2_save : GoodIn wsX2_image (wsV RX2 89 RX2 yX2_save wsX2_save) := goodIn_app (goodIn_of _ (by decide +kernel)) ggX2_image_X2_save
theorem dX2_image_0 : decode cX2_image 0 = .ok (.iload_n 1, 1) := by decide +kernel
theorem dX2_image_1 : decode cX2_image 1 = .ok (.iconst 0, 1) := by decide +kernel
theorem dX2_image_2 : decode cX2_image 2 = .ok (.iconst 1, 1) := by decide +kernel
theorem dX2_image_3 : decode cX2_image 3 = .ok (.invokestatic 20, 3) := by decide +kernel
theorem dX2_image_6 : decode cX2_image 6 = .ok (.ifCond .ne 6, 3) := by decide +kernel
theorem dX2_image_9 : decode cX2_image 9 = .ok (.bipush (-2), 2) := by decide +kernel
theorem dX2_image_11 : decode cX2_image 11 = .ok (.ireturn, 1) := by decide +kernel
theorem dX2_image_12 : decode cX2_image 12 = .ok (.aload_n 0, 1) := by decide +kernel
theorem dX2_image_13 : decode cX2_image 13 = .ok (.iload_n 1, 1) := by decide +kernel
theorem dX2_image_14 : decode cX2_image 14 = .ok (.invokevirtual 89, 3) := by decide +kernel
theorem dX2_image_17 : decode cX2_image 17 = .ok (.aload_n 0, 1) := by decide +kernel
theorem dX2_image_18 : decode cX2_image 18 = .ok (.getfield 16, 3) := by decide +kernel
theorem dX2_image_21 : decode cX2_image 21 = .ok (.iload_n 1, 1) := by decide +kernel
theorem dX2_image_22 : decode cX2_image 22 = .ok (.iconst 1, 1) := by decide +kernel
theorem dX2_image_23 : decode cX2_image 23 = .ok (.bastore, 1) := by decide +kernel
theorem dX2_image_24 : decode cX2_image 24 = .ok (.iconst 1, 1) := by decide +kernel
theorem dX2_image_25 : decode cX2_image 25 = .ok (.ireturn, 1) := by decide +kernel
set_option maxRecDepth 20000 in
theorem ggX2_restore_X2_in : GoodIn wsX2_restore wsX2_in := goodIn_r _ [5] (by decide +kernel) (by decide +kernel)
set_option maxRecDepth 20000 in
theorem gX2_restore_X2_in : GoodIn wsX2_restore (va_wsS RX2 20 yX2_in wsX2_in) := goodIn_app (goodIn_of _ (by decide +kernel)) ggX2_restore_X2_in
set_option maxRecDepth 20000 in
theorem ggX2_restore_X2_load : GoodIn wsX2_restore wsX2_load := goodIn_r _ [9, 10, 11, 12, 13, 14] (by decide +kernel) (by decide +kernel)
set_option maxRecDepth 20000 in
theorem gX2_restore_X2_load : GoodIn wsX2_restore (wsV RX2 93 RX2 yX2_load wsX2_load) := goodIn_app (goodIn_of _ (by decide +kernel)) ggX2_restore_X2_load
theorem dX2_restore_0 : decode cX2_restore 0 = .ok (.iload_n 1, 1) := by decide +kernel
theorem dX2_restore_1 : decode cX2_restore 1 = .ok (.iconst 0, 1) := by decide +kernel
theorem dX2_restore_2 : decode cX2_restore 2 = .ok (.iconst 1, 1) := by decide +kernel
theorem dX2_restore_3 : decode cX2_restore 3 = .ok (.invokestatic 20, 3) := by decide +kernel
theorem dX2_restore_6 : decode cX2_restore 6 = .ok (.ifCond .ne 6, 3) := by decide +kernel
theorem dX2_restore_9 : decode cX2_restore 9 = .ok (.bipush (-2), 2) := by decide +kernel
theorem dX2_restore_11 : decode cX2_restore 11 = .ok (.ireturn, 1) := by decide +kernel
theorem dX2_restore_12 : decode cX2_restore 12 = .ok (.aload_n 0, 1) := by decide +kernel
theorem dX2_restore_13 : decode cX2_restore 13 = .ok (.getfield 16, 3) := by decide +kernel
theorem dX2_restore_16 : decode cX2_restore 16 = .ok (.iload_n 1, 1) := by decide +kernel
theorem dX2_restore_17 : decode cX2_restore 17 = .ok (.baload, 1) := by decide +kernel
theorem dX2_restore_18 : decode cX2_restore 18 = .ok (.ifCond .ne 6, 3) := by decide +kernel
theorem dX2_restore_21 : decode cX2_restore 21 = .ok (.bipush (-3), 2) := by decide +kernel
theorem dX2_restore_23 : decode cX2_restore 23 = .ok (.ireturn, 1) := by decide +kernel
theorem dX2_restore_24 : decode cX2_restore 24 = .ok (.aload_n 0, 1) := by decide +kernel
theorem dX2_restore_25 : decode cX2_restore 25 = .ok (.iload_n 1, 1) := by decide +kernel
theorem dX2_restore_26 : decode cX2_restore 26 = .ok (.invokevirtual 93, 3) := by decide +kernel
theorem dX2_restore_29 : decode cX2_restore 29 = .ok (.iconst 1, 1) := by decide +kernel
theorem dX2_restore_30 : decode cX2_restore 30 = .ok (.ireturn, 1) := by decide +kernel
set_option maxRecDepth 20000 in
theorem ggX2_tapSizes_X2_size : GoodIn wsX2_tapSizes wsX2_size := goodIn_r _ [5] (by decide +kernel) (by decide +kernel)
set_option maxRecDepth 20000 in
theorem gX2_tapSizes_X2_size : GoodIn wsX2_tapSizes (va_wsS RX2 31 yX2_size wsX2_size) := goodIn_app (goodIn_of _ (by decide +kernel)) ggX2_tapSizes_X2_size
theorem dX2_tapSizes_0 : decode cX2_tapSizes 0 = .ok (.iconst 0, 1) := by decide +kernel
theorem dX2_tapSizes_1 : decode cX2_tapSizes 1 = .ok (.istore_n 1, 1) := by decide +kernel
theorem dX2_tapSizes_2 : decode cX2_tapSizes 2 = .ok (.iconst 0, 1) := by decide +kernel
theorem dX2_tapSizes_3 : decode cX2_tapSizes 3 = .ok (.istore_n 2, 1) := by decide +kernel
theorem dX2_tapSizes_4 : decode cX2_tapSizes 4 = .ok (.iload_n 2, 1) := by decide +kernel
theorem dX2_tapSizes_5 : decode cX2_tapSizes 5 = .ok (.bipush 8, 2) := by decide +kernel
theorem dX2_tapSizes_7 : decode cX2_tapSizes 7 = .ok (.if_icmp .ge 23, 3) := by decide +kernel
theorem dX2_tapSizes_10 : decode cX2_tapSizes 10 = .ok (.iload_n 1, 1) := by decide +kernel
theorem dX2_tapSizes_11 : decode cX2_tapSizes 11 = .ok (.aload_n 0, 1) := by decide +kernel
theorem dX2_tapSizes_12 : decode cX2_tapSizes 12 = .ok (.getfield 7, 3) := by decide +kernel
theorem dX2_tapSizes_15 : decode cX2_tapSizes 15 = .ok (.iconst 5, 1) := by decide +kernel
theorem dX2_tapSizes_16 : decode cX2_tapSizes 16 = .ok (.iload_n 2, 1) := by decide +kernel
theorem dX2_tapSizes_17 : decode cX2_tapSizes 17 = .ok (.iadd, 1) := by decide +kernel
theorem dX2_tapSizes_18 : decode cX2_tapSizes 18 = .ok (.iaload, 1) := by decide +kernel
theorem dX2_tapSizes_19 : decode cX2_tapSizes 19 = .ok (.invokestatic 31, 3) := by decide +kernel
theorem dX2_tapSizes_22 : decode cX2_tapSizes 22 = .ok (.iadd, 1) := by decide +kernel
theorem dX2_tapSizes_23 : decode cX2_tapSizes 23 = .ok (.istore_n 1, 1) := by decide +kernel
theorem dX2_tapSizes_24 : decode cX2_tapSizes 24 = .ok (.iinc 2 1, 3) := by decide +kernel
theorem dX2_tapSizes_27 : decode cX2_tapSizes 27 = .ok (.goto (-23), 3) := by decide +kernel
theorem dX2_tapSizes_30 : decode cX2_tapSizes 30 = .ok (.iload_n 1, 1) := by decide +kernel
theorem dX2_tapSizes_31 : decode cX2_tapSizes 31 = .ok (.ireturn, 1) := by decide +kernel
set_option maxRecDepth 20000 in
theorem ggX2_count_X2_in : GoodIn wsX2_count wsX2_in := goodIn_r _ [6] (by decide +kernel) (by decide +kernel)
set_option maxRecDepth 20000 in
theorem gX2_count_X2_in : GoodIn wsX2_count (va_wsS RX2 20 yX2_in wsX2_in) := goodIn_app (goodIn_of _ (by decide +kernel)) ggX2_count_X2_in
set_option maxRecDepth 20000 in
theorem ggX2_count_X2_tapSizes : GoodIn wsX2_count wsX2_tapSizes := goodIn_r _ [10, 1, 11, 12, 5, 13, 14, 15, 16] (by decide +kernel) (by decide +kernel)
set_option maxRecDepth 20000 in
theorem gX2_count_X2_tapSizes : GoodIn wsX2_count (wsV RX2 105 RX2 yX2_tapSizes wsX2_tapSizes) := goodIn_app (goodIn_of _ (by decide +kernel)) ggX2_count_X2_tapSizes
theorem dX2_count_0 : decode cX2_count 0 = .ok (.iload_n 1, 1) := by decide +kernel
theorem dX2_count_1 : decode cX2_count 1 = .ok (.bipush 10, 2) := by decide +kernel
theorem dX2_count_3 : decode cX2_count 3 = .ok (.bipush 14, 2) := by decide +kernel
theorem dX2_count_5 : decode cX2_count 5 = .ok (.invokestatic 20, 3) := by decide +kernel
theorem dX2_count_8 : decode cX2_count 8 = .ok (.ifCond .eq 15, 3) := by decide +kernel
theorem dX2_count_11 : decode cX2_count 11 = .ok (.aload_n 0, 1) := by decide +kernel
theorem dX2_count_12 : decode cX2_count 12 = .ok (.getfield 7, 3) := by decide +kernel
theorem dX2_count_15 : decode cX2_count 15 = .ok (.iconst 0, 1) := by decide +kernel
theorem dX2_count_16 : decode cX2_count 16 = .ok (.iload_n 1, 1) := by decide +kernel
theorem dX2_count_17 : decode cX2_count 17 = .ok (.iadd, 1) := by decide +kernel
theorem dX2_count_18 : decode cX2_count 18 = .ok (.bipush 10, 2) := by decide +kernel
theorem dX2_count_20 : decode cX2_count 20 = .ok (.isub, 1) := by decide +kernel
theorem dX2_count_21 : decode cX2_count 21 = .ok (.iaload, 1) := by decide +kernel
theorem dX2_count_22 : decode cX2_count 22 = .ok (.ireturn, 1) := by decide +kernel
theorem dX2_count_23 : decode cX2_count 23 = .ok (.iload_n 1, 1) := by decide +kernel
theorem dX2_count_24 : decode cX2_count 24 = .ok (.tableswitch 107 0 5 #[40, 48, 56, 64, 69, 77], 40) := by decide +kernel
theorem dX2_count_64 : decode cX2_count 64 = .ok (.aload_n 0, 1) := by decide +kernel
theorem dX2_count_65 : decode cX2_count 65 = .ok (.getfield 7, 3) := by decide +kernel
theorem dX2_count_68 : decode cX2_count 68 = .ok (.bipush 24, 2) := by decide +kernel
theorem dX2_count_70 : decode cX2_count 70 = .ok (.iaload, 1) := by decide +kernel
theorem dX2_count_71 : decode cX2_count 71 = .ok (.ireturn, 1) := by decide +kernel
theorem dX2_count_72 : decode cX2_count 72 = .ok (.aload_n 0, 1) := by decide +kernel
theorem dX2_count_73 : decode cX2_count 73 = .ok (.getfield 7, 3) := by decide +kernel
theorem dX2_count_76 : decode cX2_count 76 = .ok (.bipush 22, 2) := by decide +kernel
theorem dX2_count_78 : decode cX2_count 78 = .ok (.iaload, 1) := by decide +kernel
theorem dX2_count_79 : decode cX2_count 79 = .ok (.ireturn, 1) := by decide +kernel
theorem dX2_count_80 : decode cX2_count 80 = .ok (.aload_n 0, 1) := by decide +kernel
theorem dX2_count_81 : decode cX2_count 81 = .ok (.getfield 7, 3) := by decide +kernel
theorem dX2_count_84 : decode cX2_count 84 = .ok (.bipush 23, 2) := by decide +kernel
theorem dX2_count_86 : decode cX2_count 86 = .ok (.iaload, 1) := by decide +kernel
theorem dX2_count_87 : decode cX2_count 87 = .ok (.ireturn, 1) := by decide +kernel
theorem dX2_count_88 : decode cX2_count 88 = .ok (.aload_n 0, 1) := by decide +kernel
theorem dX2_count_89 : decode cX2_count 89 = .ok (.invokevirtual 105, 3) := by decide +kernel
theorem dX2_count_92 : decode cX2_count 92 = .ok (.ireturn, 1) := by decide +kernel
theorem dX2_count_93 : decode cX2_count 93 = .ok (.aload_n 0, 1) := by decide +kernel
theorem dX2_count_94 : decode cX2_count 94 = .ok (.getfield 7, 3) := by decide +kernel
theorem dX2_count_97 : decode cX2_count 97 = .ok (.bipush 21, 2) := by decide +kernel
theorem dX2_count_99 : decode cX2_count 99 = .ok (.iaload, 1) := by decide +kernel
theorem dX2_count_100 : decode cX2_count 100 = .ok (.ireturn, 1) := by decide +kernel
theorem dX2_count_101 : decode cX2_count 101 = .ok (.aload_n 0, 1) := by decide +kernel
theorem dX2_count_102 : decode cX2_count 102 = .ok (.getfield 16, 3) := by decide +kernel
theorem dX2_count_105 : decode cX2_count 105 = .ok (.iconst 0, 1) := by decide +kernel
theorem dX2_count_106 : decode cX2_count 106 = .ok (.baload, 1) := by decide +kernel
theorem dX2_count_107 : decode cX2_count 107 = .ok (.ifCond .eq 7, 3) := by decide +kernel
theorem dX2_count_110 : decode cX2_count 110 = .ok (.iconst 1, 1) := by decide +kernel
theorem dX2_count_111 : decode cX2_count 111 = .ok (.goto 4, 3) := by decide +kernel
theorem dX2_count_114 : decode cX2_count 114 = .ok (.iconst 0, 1) := by decide +kernel
theorem dX2_count_115 : decode cX2_count 115 = .ok (.aload_n 0, 1) := by decide +kernel
theorem dX2_count_116 : decode cX2_count 116 = .ok (.getfield 16, 3) := by decide +kernel
theorem dX2_count_119 : decode cX2_count 119 = .ok (.iconst 1, 1) := by decide +kernel
theorem dX2_count_120 : decode cX2_count 120 = .ok (.baload, 1) := by decide +kernel
theorem dX2_count_121 : decode cX2_count 121 = .ok (.ifCond .eq 7, 3) := by decide +kernel
theorem dX2_count_124 : decode cX2_count 124 = .ok (.iconst 2, 1) := by decide +kernel
theorem dX2_count_125 : decode cX2_count 125 = .ok (.goto 4, 3) := by decide +kernel
theorem dX2_count_128 : decode cX2_count 128 = .ok (.iconst 0, 1) := by decide +kernel
theorem dX2_count_129 : decode cX2_count 129 = .ok (.iadd, 1) := by decide +kernel
theorem dX2_count_130 : decode cX2_count 130 = .ok (.ireturn, 1) := by decide +kernel
theorem dX2_count_131 : decode cX2_count 131 = .ok (.bipush (-2), 2) := by decide +kernel
theorem dX2_count_133 : decode cX2_count 133 = .ok (.ireturn, 1) := by decide +kernel
theorem dJ9_abs_0f7a4_0 : decode cJ9_abs_0f7a4 0 = .ok (.iload_n 0, 1) := by decide +kernel
theorem dJ9_abs_0f7a4_1 : decode cJ9_abs_0f7a4 1 = .ok (.ifCond .ge 8, 3) := by decide +kernel
theorem dJ9_abs_0f7a4_4 : decode cJ9_abs_0f7a4 4 = .ok (.iload_n 0, 1) := by decide +kernel
theorem dJ9_abs_0f7a4_5 : decode cJ9_abs_0f7a4 5 = .ok (.ineg, 1) := by decide +kernel
theorem dJ9_abs_0f7a4_6 : decode cJ9_abs_0f7a4 6 = .ok (.goto 4, 3) := by decide +kernel
theorem dJ9_abs_0f7a4_9 : decode cJ9_abs_0f7a4 9 = .ok (.iload_n 0, 1) := by decide +kernel
theorem dJ9_abs_0f7a4_10 : decode cJ9_abs_0f7a4 10 = .ok (.ireturn, 1) := by decide +kernel
theorem dJ9_max_7cf53_0 : decode cJ9_max_7cf53 0 = .ok (.iload_n 0, 1) := by decide +kernel
theorem dJ9_max_7cf53_1 : decode cJ9_max_7cf53 1 = .ok (.iload_n 1, 1) := by decide +kernel
theorem dJ9_max_7cf53_2 : decode cJ9_max_7cf53 2 = .ok (.if_icmp .lt 7, 3) := by decide +kernel
theorem dJ9_max_7cf53_5 : decode cJ9_max_7cf53 5 = .ok (.iload_n 0, 1) := by decide +kernel
theorem dJ9_max_7cf53_6 : decode cJ9_max_7cf53 6 = .ok (.goto 4, 3) := by decide +kernel
theorem dJ9_max_7cf53_9 : decode cJ9_max_7cf53 9 = .ok (.iload_n 1, 1) := by decide +kernel
theorem dJ9_max_7cf53_10 : decode cJ9_max_7cf53 10 = .ok (.ireturn, 1) := by decide +kernel
theorem dJ9_max_f86c9_0 : decode cJ9_max_f86c9 0 = .ok (.lload_n 0, 1) := by decide +kernel
theorem dJ9_max_f86c9_1 : decode cJ9_max_f86c9 1 = .ok (.lload_n 2, 1) := by decide +kernel
theorem dJ9_max_f86c9_2 : decode cJ9_max_f86c9 2 = .ok (.lcmp, 1) := by decide +kernel
theorem dJ9_max_f86c9_3 : decode cJ9_max_f86c9 3 = .ok (.ifCond .lt 7, 3) := by decide +kernel
theorem dJ9_max_f86c9_6 : decode cJ9_max_f86c9 6 = .ok (.lload_n 0, 1) := by decide +kernel
theorem dJ9_max_f86c9_7 : decode cJ9_max_f86c9 7 = .ok (.goto 4, 3) := by decide +kernel
theorem dJ9_max_f86c9_10 : decode cJ9_max_f86c9 10 = .ok (.lload_n 2, 1) := by decide +kernel
theorem dJ9_max_f86c9_11 : decode cJ9_max_f86c9 11 = .ok (.lreturn, 1) := by decide +kernel
theorem dJ9_min_7cf53_0 : decode cJ9_min_7cf53 0 = .ok (.iload_n 0, 1) := by decide +kernel
theorem dJ9_min_7cf53_1 : decode cJ9_min_7cf53 1 = .ok (.iload_n 1, 1) := by decide +kernel
theorem dJ9_min_7cf53_2 : decode cJ9_min_7cf53 2 = .ok (.if_icmp .gt 7, 3) := by decide +kernel
theorem dJ9_min_7cf53_5 : decode cJ9_min_7cf53 5 = .ok (.iload_n 0, 1) := by decide +kernel
theorem dJ9_min_7cf53_6 : decode cJ9_min_7cf53 6 = .ok (.goto 4, 3) := by decide +kernel
theorem dJ9_min_7cf53_9 : decode cJ9_min_7cf53 9 = .ok (.iload_n 1, 1) := by decide +kernel
theorem dJ9_min_7cf53_10 : decode cJ9_min_7cf53 10 = .ok (.ireturn, 1) := by decide +kernel
theorem dJ9_min_f86c9_0 : decode cJ9_min_f86c9 0 = .ok (.lload_n 0, 1) := by decide +kernel
theorem dJ9_min_f86c9_1 : decode cJ9_min_f86c9 1 = .ok (.lload_n 2, 1) := by decide +kernel
theorem dJ9_min_f86c9_2 : decode cJ9_min_f86c9 2 = .ok (.lcmp, 1) := by decide +kernel
theorem dJ9_min_f86c9_3 : decode cJ9_min_f86c9 3 = .ok (.ifCond .gt 7, 3) := by decide +kernel
theorem dJ9_min_f86c9_6 : decode cJ9_min_f86c9 6 = .ok (.lload_n 0, 1) := by decide +kernel
theorem dJ9_min_f86c9_7 : decode cJ9_min_f86c9 7 = .ok (.goto 4, 3) := by decide +kernel
theorem dJ9_min_f86c9_10 : decode cJ9_min_f86c9 10 = .ok (.lload_n 2, 1) := by decide +kernel
theorem dJ9_min_f86c9_11 : decode cJ9_min_f86c9 11 = .ok (.lreturn, 1) := by decide +kernel
