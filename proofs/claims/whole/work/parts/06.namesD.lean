theorem dX5_alarm_53 : decode cX5_alarm 53 = .ok (.aload_n 0, 1) := by decide +kernel
theorem dX5_alarm_54 : decode cX5_alarm 54 = .ok (.getfield 31, 3) := by decide +kernel
theorem dX5_alarm_57 : decode cX5_alarm 57 = .ok (.iload_n 1, 1) := by decide +kernel
theorem dX5_alarm_58 : decode cX5_alarm 58 = .ok (.iaload, 1) := by decide +kernel
theorem dX5_alarm_59 : decode cX5_alarm 59 = .ok (.iload_n 2, 1) := by decide +kernel
theorem dX5_alarm_60 : decode cX5_alarm 60 = .ok (.iastore, 1) := by decide +kernel
theorem dX5_alarm_61 : decode cX5_alarm 61 = .ok (.iload 4, 2) := by decide +kernel
theorem dX5_alarm_63 : decode cX5_alarm 63 = .ok (.ireturn, 1) := by decide +kernel
set_option maxRecDepth 20000 in
theorem ggX5_raise_X5_isHook : GoodIn wsX5_raise wsX5_isHook := goodIn_r _ [7, 8, 9, 6, 10] (by decide +kernel) (by decide +kernel)
set_option maxRecDepth 20000 in
theorem gX5_raise_X5_isHook : GoodIn wsX5_raise (va_wsS RX5 68 yX5_isHook wsX5_isHook) := goodIn_app (goodIn_of _ (by decide +kernel)) ggX5_raise_X5_isHook
set_option maxRecDepth 20000 in
theorem ggX5_raise_X5_against : GoodIn wsX5_raise wsX5_against := goodIn_r _ [14, 15, 16, 17, 6, 18, 2, 19, 25, 26, 27, 28, 29, 30, 31, 32, 33, 34, 35, 36, 37, 38, 39, 40, 41, 42] (by decide +kernel) (by decide +kernel)
set_option maxRecDepth 20000 in
theorem gX5_raise_X5_against : GoodIn wsX5_raise (wsV RX5 81 RX5 yX5_against wsX5_against) := goodIn_app (goodIn_of _ (by decide +kernel)) ggX5_raise_X5_against
set_option maxRecDepth 20000 in
theorem ggX5_raise_X5_no : GoodIn wsX5_raise wsX5_no := goodIn_r _ [23, 24, 25, 26, 27, 28, 29, 30, 31, 32, 33, 34, 35, 36, 37, 38, 39, 40, 41, 42] (by decide +kernel) (by decide +kernel)
set_option maxRecDepth 20000 in
theorem gX5_raise_X5_no : GoodIn wsX5_raise (wsV RX5 75 RX5 yX5_no wsX5_no) := goodIn_app (goodIn_of _ (by decide +kernel)) ggX5_raise_X5_no
theorem dX5_raise_0 : decode cX5_raise 0 = .ok (.iload_n 1, 1) := by decide +kernel
theorem dX5_raise_1 : decode cX5_raise 1 = .ok (.invokestatic 68, 3) := by decide +kernel
theorem dX5_raise_4 : decode cX5_raise 4 = .ok (.ifCond .ne 5, 3) := by decide +kernel
theorem dX5_raise_7 : decode cX5_raise 7 = .ok (.iconst (-1), 1) := by decide +kernel
theorem dX5_raise_8 : decode cX5_raise 8 = .ok (.ireturn, 1) := by decide +kernel
theorem dX5_raise_9 : decode cX5_raise 9 = .ok (.aload_n 0, 1) := by decide +kernel
theorem dX5_raise_10 : decode cX5_raise 10 = .ok (.iload_n 1, 1) := by decide +kernel
theorem dX5_raise_11 : decode cX5_raise 11 = .ok (.iconst 0, 1) := by decide +kernel
theorem dX5_raise_12 : decode cX5_raise 12 = .ok (.invokevirtual 81, 3) := by decide +kernel
theorem dX5_raise_15 : decode cX5_raise 15 = .ok (.istore_n 2, 1) := by decide +kernel
theorem dX5_raise_16 : decode cX5_raise 16 = .ok (.iload_n 2, 1) := by decide +kernel
theorem dX5_raise_17 : decode cX5_raise 17 = .ok (.ifCond .le 9, 3) := by decide +kernel
theorem dX5_raise_20 : decode cX5_raise 20 = .ok (.aload_n 0, 1) := by decide +kernel
theorem dX5_raise_21 : decode cX5_raise 21 = .ok (.iload_n 2, 1) := by decide +kernel
theorem dX5_raise_22 : decode cX5_raise 22 = .ok (.invokevirtual 75, 3) := by decide +kernel
theorem dX5_raise_25 : decode cX5_raise 25 = .ok (.ireturn, 1) := by decide +kernel
theorem dX5_raise_26 : decode cX5_raise 26 = .ok (.aload_n 0, 1) := by decide +kernel
theorem dX5_raise_27 : decode cX5_raise 27 = .ok (.getfield 22, 3) := by decide +kernel
theorem dX5_raise_30 : decode cX5_raise 30 = .ok (.aload_n 0, 1) := by decide +kernel
theorem dX5_raise_31 : decode cX5_raise 31 = .ok (.getfield 31, 3) := by decide +kernel
theorem dX5_raise_34 : decode cX5_raise 34 = .ok (.iload_n 1, 1) := by decide +kernel
theorem dX5_raise_35 : decode cX5_raise 35 = .ok (.iaload, 1) := by decide +kernel
theorem dX5_raise_36 : decode cX5_raise 36 = .ok (.iaload, 1) := by decide +kernel
theorem dX5_raise_37 : decode cX5_raise 37 = .ok (.ifCond .ne 9, 3) := by decide +kernel
theorem dX5_raise_40 : decode cX5_raise 40 = .ok (.aload_n 0, 1) := by decide +kernel
theorem dX5_raise_41 : decode cX5_raise 41 = .ok (.iconst 1, 1) := by decide +kernel
theorem dX5_raise_42 : decode cX5_raise 42 = .ok (.invokevirtual 75, 3) := by decide +kernel
theorem dX5_raise_45 : decode cX5_raise 45 = .ok (.ireturn, 1) := by decide +kernel
theorem dX5_raise_46 : decode cX5_raise 46 = .ok (.aload_n 0, 1) := by decide +kernel
theorem dX5_raise_47 : decode cX5_raise 47 = .ok (.aload_n 0, 1) := by decide +kernel
theorem dX5_raise_48 : decode cX5_raise 48 = .ok (.getfield 22, 3) := by decide +kernel
theorem dX5_raise_51 : decode cX5_raise 51 = .ok (.aload_n 0, 1) := by decide +kernel
theorem dX5_raise_52 : decode cX5_raise 52 = .ok (.getfield 31, 3) := by decide +kernel
theorem dX5_raise_55 : decode cX5_raise 55 = .ok (.iload_n 1, 1) := by decide +kernel
theorem dX5_raise_56 : decode cX5_raise 56 = .ok (.iaload, 1) := by decide +kernel
theorem dX5_raise_57 : decode cX5_raise 57 = .ok (.iaload, 1) := by decide +kernel
theorem dX5_raise_58 : decode cX5_raise 58 = .ok (.putfield 78, 3) := by decide +kernel
theorem dX5_raise_61 : decode cX5_raise 61 = .ok (.aload_n 0, 1) := by decide +kernel
theorem dX5_raise_62 : decode cX5_raise 62 = .ok (.bipush 6, 2) := by decide +kernel
theorem dX5_raise_64 : decode cX5_raise 64 = .ok (.invokevirtual 75, 3) := by decide +kernel
theorem dX5_raise_67 : decode cX5_raise 67 = .ok (.ireturn, 1) := by decide +kernel
theorem dX5_level_0 : decode cX5_level 0 = .ok (.aload_n 0, 1) := by decide +kernel
theorem dX5_level_1 : decode cX5_level 1 = .ok (.getfield 78, 3) := by decide +kernel
theorem dX5_level_4 : decode cX5_level 4 = .ok (.ireturn, 1) := by decide +kernel
set_option maxRecDepth 20000 in
theorem ggX5_frame_X5_no : GoodIn wsX5_frame wsX5_no := goodIn_r _ [8, 9, 10, 11, 12, 13, 14, 15, 16, 17, 18, 19, 20, 21, 22, 23, 24, 25, 26, 27] (by decide +kernel) (by decide +kernel)
set_option maxRecDepth 20000 in
theorem gX5_frame_X5_no : GoodIn wsX5_frame (wsV RX5 75 RX5 yX5_no wsX5_no) := goodIn_app (goodIn_of _ (by decide +kernel)) ggX5_frame_X5_no
theorem dX5_frame_0 : decode cX5_frame 0 = .ok (.iload_n 1, 1) := by decide +kernel
theorem dX5_frame_1 : decode cX5_frame 1 = .ok (.bipush 12, 2) := by decide +kernel
theorem dX5_frame_3 : decode cX5_frame 3 = .ok (.if_icmp .le 5, 3) := by decide +kernel
theorem dX5_frame_6 : decode cX5_frame 6 = .ok (.iconst (-1), 1) := by decide +kernel
theorem dX5_frame_7 : decode cX5_frame 7 = .ok (.ireturn, 1) := by decide +kernel
theorem dX5_frame_8 : decode cX5_frame 8 = .ok (.iload_n 1, 1) := by decide +kernel
theorem dX5_frame_9 : decode cX5_frame 9 = .ok (.ifCond .ge 9, 3) := by decide +kernel
theorem dX5_frame_12 : decode cX5_frame 12 = .ok (.aload_n 0, 1) := by decide +kernel
theorem dX5_frame_13 : decode cX5_frame 13 = .ok (.iconst 4, 1) := by decide +kernel
theorem dX5_frame_14 : decode cX5_frame 14 = .ok (.invokevirtual 75, 3) := by decide +kernel
theorem dX5_frame_17 : decode cX5_frame 17 = .ok (.ireturn, 1) := by decide +kernel
theorem dX5_frame_18 : decode cX5_frame 18 = .ok (.aload_n 0, 1) := by decide +kernel
theorem dX5_frame_19 : decode cX5_frame 19 = .ok (.iload_n 1, 1) := by decide +kernel
theorem dX5_frame_20 : decode cX5_frame 20 = .ok (.putfield 34, 3) := by decide +kernel
theorem dX5_frame_23 : decode cX5_frame 23 = .ok (.aload_n 0, 1) := by decide +kernel
theorem dX5_frame_24 : decode cX5_frame 24 = .ok (.iload_n 2, 1) := by decide +kernel
theorem dX5_frame_25 : decode cX5_frame 25 = .ok (.putfield 91, 3) := by decide +kernel
theorem dX5_frame_28 : decode cX5_frame 28 = .ok (.iconst 0, 1) := by decide +kernel
theorem dX5_frame_29 : decode cX5_frame 29 = .ok (.istore_n 3, 1) := by decide +kernel
theorem dX5_frame_30 : decode cX5_frame 30 = .ok (.iload_n 3, 1) := by decide +kernel
theorem dX5_frame_31 : decode cX5_frame 31 = .ok (.bipush 12, 2) := by decide +kernel
theorem dX5_frame_33 : decode cX5_frame 33 = .ok (.if_icmp .ge 16, 3) := by decide +kernel
theorem dX5_frame_36 : decode cX5_frame 36 = .ok (.aload_n 0, 1) := by decide +kernel
theorem dX5_frame_37 : decode cX5_frame 37 = .ok (.getfield 38, 3) := by decide +kernel
theorem dX5_frame_40 : decode cX5_frame 40 = .ok (.iload_n 3, 1) := by decide +kernel
theorem dX5_frame_41 : decode cX5_frame 41 = .ok (.iconst (-1), 1) := by decide +kernel
theorem dX5_frame_42 : decode cX5_frame 42 = .ok (.iastore, 1) := by decide +kernel
theorem dX5_frame_43 : decode cX5_frame 43 = .ok (.iinc 3 1, 3) := by decide +kernel
theorem dX5_frame_46 : decode cX5_frame 46 = .ok (.goto (-16), 3) := by decide +kernel
theorem dX5_frame_49 : decode cX5_frame 49 = .ok (.iload_n 1, 1) := by decide +kernel
theorem dX5_frame_50 : decode cX5_frame 50 = .ok (.ireturn, 1) := by decide +kernel
set_option maxRecDepth 20000 in
theorem ggX5_size_X5_no : GoodIn wsX5_size wsX5_no := goodIn_r _ [6, 7, 8, 9, 10, 11, 12, 13, 14, 15, 16, 17, 18, 19, 20, 21, 22, 23, 24, 25] (by decide +kernel) (by decide +kernel)
set_option maxRecDepth 20000 in
theorem gX5_size_X5_no : GoodIn wsX5_size (wsV RX5 75 RX5 yX5_no wsX5_no) := goodIn_app (goodIn_of _ (by decide +kernel)) ggX5_size_X5_no
theorem dX5_size_0 : decode cX5_size 0 = .ok (.aload_n 0, 1) := by decide +kernel
theorem dX5_size_1 : decode cX5_size 1 = .ok (.getfield 34, 3) := by decide +kernel
theorem dX5_size_4 : decode cX5_size 4 = .ok (.iconst (-1), 1) := by decide +kernel
theorem dX5_size_5 : decode cX5_size 5 = .ok (.if_icmp .ne 11, 3) := by decide +kernel
theorem dX5_size_8 : decode cX5_size 8 = .ok (.aload_n 0, 1) := by decide +kernel
theorem dX5_size_9 : decode cX5_size 9 = .ok (.iconst 1, 1) := by decide +kernel
theorem dX5_size_10 : decode cX5_size 10 = .ok (.invokevirtual 75, 3) := by decide +kernel
theorem dX5_size_13 : decode cX5_size 13 = .ok (.goto 7, 3) := by decide +kernel
theorem dX5_size_16 : decode cX5_size 16 = .ok (.aload_n 0, 1) := by decide +kernel
theorem dX5_size_17 : decode cX5_size 17 = .ok (.getfield 34, 3) := by decide +kernel
theorem dX5_size_20 : decode cX5_size 20 = .ok (.ireturn, 1) := by decide +kernel
set_option maxRecDepth 20000 in
theorem ggX5_lay_X5_isHook : GoodIn wsX5_lay wsX5_isHook := goodIn_r _ [8, 9, 10, 7, 11] (by decide +kernel) (by decide +kernel)
set_option maxRecDepth 20000 in
theorem gX5_lay_X5_isHook : GoodIn wsX5_lay (va_wsS RX5 68 yX5_isHook wsX5_isHook) := goodIn_app (goodIn_of _ (by decide +kernel)) ggX5_lay_X5_isHook
set_option maxRecDepth 20000 in
theorem ggX5_lay_X5_sortAt : GoodIn wsX5_lay wsX5_sortAt := goodIn_r _ [15, 4, 16, 22, 23, 24, 25, 26, 27, 28, 29, 30, 31, 32, 33, 34, 35, 36, 37, 38, 39] (by decide +kernel) (by decide +kernel)
set_option maxRecDepth 20000 in
theorem gX5_lay_X5_sortAt : GoodIn wsX5_lay (wsV RX5 64 RX5 yX5_sortAt wsX5_sortAt) := goodIn_app (goodIn_of _ (by decide +kernel)) ggX5_lay_X5_sortAt
set_option maxRecDepth 20000 in
theorem ggX5_lay_X5_no : GoodIn wsX5_lay wsX5_no := goodIn_r _ [20, 21, 22, 23, 24, 25, 26, 27, 28, 29, 30, 31, 32, 33, 34, 35, 36, 37, 38, 39] (by decide +kernel) (by decide +kernel)
set_option maxRecDepth 20000 in
theorem gX5_lay_X5_no : GoodIn wsX5_lay (wsV RX5 75 RX5 yX5_no wsX5_no) := goodIn_app (goodIn_of _ (by decide +kernel)) ggX5_lay_X5_no
set_option maxRecDepth 20000 in
theorem ggX5_lay_X5_in : GoodIn wsX5_lay wsX5_in := goodIn_r _ [11] (by decide +kernel) (by decide +kernel)
set_option maxRecDepth 20000 in
theorem gX5_lay_X5_in : GoodIn wsX5_lay (va_wsS RX5 56 yX5_in wsX5_in) := goodIn_app (goodIn_of _ (by decide +kernel)) ggX5_lay_X5_in
theorem dX5_lay_0 : decode cX5_lay 0 = .ok (.iload_n 2, 1) := by decide +kernel
theorem dX5_lay_1 : decode cX5_lay 1 = .ok (.invokestatic 68, 3) := by decide +kernel
theorem dX5_lay_4 : decode cX5_lay 4 = .ok (.ifCond .ne 5, 3) := by decide +kernel
theorem dX5_lay_7 : decode cX5_lay 7 = .ok (.iconst (-1), 1) := by decide +kernel
theorem dX5_lay_8 : decode cX5_lay 8 = .ok (.ireturn, 1) := by decide +kernel
theorem dX5_lay_9 : decode cX5_lay 9 = .ok (.aload_n 0, 1) := by decide +kernel
theorem dX5_lay_10 : decode cX5_lay 10 = .ok (.iload_n 2, 1) := by decide +kernel
theorem dX5_lay_11 : decode cX5_lay 11 = .ok (.invokevirtual 64, 3) := by decide +kernel
theorem dX5_lay_14 : decode cX5_lay 14 = .ok (.iconst 3, 1) := by decide +kernel
theorem dX5_lay_15 : decode cX5_lay 15 = .ok (.if_icmp .ne 9, 3) := by decide +kernel
theorem dX5_lay_18 : decode cX5_lay 18 = .ok (.aload_n 0, 1) := by decide +kernel
theorem dX5_lay_19 : decode cX5_lay 19 = .ok (.iconst 2, 1) := by decide +kernel
theorem dX5_lay_20 : decode cX5_lay 20 = .ok (.invokevirtual 75, 3) := by decide +kernel
theorem dX5_lay_23 : decode cX5_lay 23 = .ok (.ireturn, 1) := by decide +kernel
theorem dX5_lay_24 : decode cX5_lay 24 = .ok (.aload_n 0, 1) := by decide +kernel
theorem dX5_lay_25 : decode cX5_lay 25 = .ok (.getfield 34, 3) := by decide +kernel
theorem dX5_lay_28 : decode cX5_lay 28 = .ok (.iconst (-1), 1) := by decide +kernel
theorem dX5_lay_29 : decode cX5_lay 29 = .ok (.if_icmp .ne 9, 3) := by decide +kernel
theorem dX5_lay_32 : decode cX5_lay 32 = .ok (.aload_n 0, 1) := by decide +kernel
theorem dX5_lay_33 : decode cX5_lay 33 = .ok (.iconst 1, 1) := by decide +kernel
theorem dX5_lay_34 : decode cX5_lay 34 = .ok (.invokevirtual 75, 3) := by decide +kernel
theorem dX5_lay_37 : decode cX5_lay 37 = .ok (.ireturn, 1) := by decide +kernel
theorem dX5_lay_38 : decode cX5_lay 38 = .ok (.iload_n 1, 1) := by decide +kernel
theorem dX5_lay_39 : decode cX5_lay 39 = .ok (.iconst 0, 1) := by decide +kernel
theorem dX5_lay_40 : decode cX5_lay 40 = .ok (.aload_n 0, 1) := by decide +kernel
theorem dX5_lay_41 : decode cX5_lay 41 = .ok (.getfield 34, 3) := by decide +kernel
theorem dX5_lay_44 : decode cX5_lay 44 = .ok (.iconst 1, 1) := by decide +kernel
theorem dX5_lay_45 : decode cX5_lay 45 = .ok (.isub, 1) := by decide +kernel
theorem dX5_lay_46 : decode cX5_lay 46 = .ok (.invokestatic 56, 3) := by decide +kernel
theorem dX5_lay_49 : decode cX5_lay 49 = .ok (.ifCond .ne 9, 3) := by decide +kernel
theorem dX5_lay_52 : decode cX5_lay 52 = .ok (.aload_n 0, 1) := by decide +kernel
theorem dX5_lay_53 : decode cX5_lay 53 = .ok (.iconst 5, 1) := by decide +kernel
theorem dX5_lay_54 : decode cX5_lay 54 = .ok (.invokevirtual 75, 3) := by decide +kernel
theorem dX5_lay_57 : decode cX5_lay 57 = .ok (.ireturn, 1) := by decide +kernel
theorem dX5_lay_58 : decode cX5_lay 58 = .ok (.aload_n 0, 1) := by decide +kernel
theorem dX5_lay_59 : decode cX5_lay 59 = .ok (.getfield 91, 3) := by decide +kernel
theorem dX5_lay_62 : decode cX5_lay 62 = .ok (.ifCond .eq 18, 3) := by decide +kernel
theorem dX5_lay_65 : decode cX5_lay 65 = .ok (.aload_n 0, 1) := by decide +kernel
theorem dX5_lay_66 : decode cX5_lay 66 = .ok (.iload_n 2, 1) := by decide +kernel
theorem dX5_lay_67 : decode cX5_lay 67 = .ok (.invokevirtual 64, 3) := by decide +kernel
theorem dX5_lay_70 : decode cX5_lay 70 = .ok (.iconst 1, 1) := by decide +kernel
theorem dX5_lay_71 : decode cX5_lay 71 = .ok (.if_icmp .ne 9, 3) := by decide +kernel
theorem dX5_lay_74 : decode cX5_lay 74 = .ok (.aload_n 0, 1) := by decide +kernel
theorem dX5_lay_75 : decode cX5_lay 75 = .ok (.iconst 3, 1) := by decide +kernel
theorem dX5_lay_76 : decode cX5_lay 76 = .ok (.invokevirtual 75, 3) := by decide +kernel
theorem dX5_lay_79 : decode cX5_lay 79 = .ok (.ireturn, 1) := by decide +kernel
theorem dX5_lay_80 : decode cX5_lay 80 = .ok (.aload_n 0, 1) := by decide +kernel
theorem dX5_lay_81 : decode cX5_lay 81 = .ok (.getfield 38, 3) := by decide +kernel
theorem dX5_lay_84 : decode cX5_lay 84 = .ok (.iload_n 1, 1) := by decide +kernel
theorem dX5_lay_85 : decode cX5_lay 85 = .ok (.aload_n 0, 1) := by decide +kernel
theorem dX5_lay_86 : decode cX5_lay 86 = .ok (.getfield 31, 3) := by decide +kernel
theorem dX5_lay_89 : decode cX5_lay 89 = .ok (.iload_n 2, 1) := by decide +kernel
theorem dX5_lay_90 : decode cX5_lay 90 = .ok (.iaload, 1) := by decide +kernel
theorem dX5_lay_91 : decode cX5_lay 91 = .ok (.iastore, 1) := by decide +kernel
theorem dX5_lay_92 : decode cX5_lay 92 = .ok (.aload_n 0, 1) := by decide +kernel
theorem dX5_lay_93 : decode cX5_lay 93 = .ok (.getfield 31, 3) := by decide +kernel
theorem dX5_lay_96 : decode cX5_lay 96 = .ok (.iload_n 2, 1) := by decide +kernel
theorem dX5_lay_97 : decode cX5_lay 97 = .ok (.iaload, 1) := by decide +kernel
theorem dX5_lay_98 : decode cX5_lay 98 = .ok (.iconst (-1), 1) := by decide +kernel
theorem dX5_lay_99 : decode cX5_lay 99 = .ok (.if_icmp .ne 7, 3) := by decide +kernel
theorem dX5_lay_102 : decode cX5_lay 102 = .ok (.iconst 0, 1) := by decide +kernel
theorem dX5_lay_103 : decode cX5_lay 103 = .ok (.goto 4, 3) := by decide +kernel
theorem dX5_lay_106 : decode cX5_lay 106 = .ok (.iconst 1, 1) := by decide +kernel
theorem dX5_lay_107 : decode cX5_lay 107 = .ok (.ireturn, 1) := by decide +kernel
set_option maxRecDepth 20000 in
theorem ggX5_see_X5_no : GoodIn wsX5_see wsX5_no := goodIn_r _ [8, 9, 13, 14, 15, 16, 17, 18, 19, 20, 21, 22, 23, 24, 25, 26, 27, 28, 29, 30] (by decide +kernel) (by decide +kernel)
set_option maxRecDepth 20000 in
theorem gX5_see_X5_no : GoodIn wsX5_see (wsV RX5 75 RX5 yX5_no wsX5_no) := goodIn_app (goodIn_of _ (by decide +kernel)) ggX5_see_X5_no
set_option maxRecDepth 20000 in
theorem ggX5_see_X5_in : GoodIn wsX5_see wsX5_in := goodIn_r _ [12] (by decide +kernel) (by decide +kernel)
set_option maxRecDepth 20000 in
theorem gX5_see_X5_in : GoodIn wsX5_see (va_wsS RX5 56 yX5_in wsX5_in) := goodIn_app (goodIn_of _ (by decide +kernel)) ggX5_see_X5_in
theorem dX5_see_0 : decode cX5_see 0 = .ok (.aload_n 0, 1) := by decide +kernel
theorem dX5_see_1 : decode cX5_see 1 = .ok (.getfield 34, 3) := by decide +kernel
theorem dX5_see_4 : decode cX5_see 4 = .ok (.iconst (-1), 1) := by decide +kernel
theorem dX5_see_5 : decode cX5_see 5 = .ok (.if_icmp .ne 9, 3) := by decide +kernel
theorem dX5_see_8 : decode cX5_see 8 = .ok (.aload_n 0, 1) := by decide +kernel
theorem dX5_see_9 : decode cX5_see 9 = .ok (.iconst 1, 1) := by decide +kernel
theorem dX5_see_10 : decode cX5_see 10 = .ok (.invokevirtual 75, 3) := by decide +kernel
theorem dX5_see_13 : decode cX5_see 13 = .ok (.ireturn, 1) := by decide +kernel
theorem dX5_see_14 : decode cX5_see 14 = .ok (.iload_n 1, 1) := by decide +kernel
theorem dX5_see_15 : decode cX5_see 15 = .ok (.iconst 0, 1) := by decide +kernel
theorem dX5_see_16 : decode cX5_see 16 = .ok (.aload_n 0, 1) := by decide +kernel
theorem dX5_see_17 : decode cX5_see 17 = .ok (.getfield 34, 3) := by decide +kernel
theorem dX5_see_20 : decode cX5_see 20 = .ok (.iconst 1, 1) := by decide +kernel
theorem dX5_see_21 : decode cX5_see 21 = .ok (.isub, 1) := by decide +kernel
theorem dX5_see_22 : decode cX5_see 22 = .ok (.invokestatic 56, 3) := by decide +kernel
theorem dX5_see_25 : decode cX5_see 25 = .ok (.ifCond .ne 9, 3) := by decide +kernel
theorem dX5_see_28 : decode cX5_see 28 = .ok (.aload_n 0, 1) := by decide +kernel
theorem dX5_see_29 : decode cX5_see 29 = .ok (.iconst 5, 1) := by decide +kernel
theorem dX5_see_30 : decode cX5_see 30 = .ok (.invokevirtual 75, 3) := by decide +kernel
theorem dX5_see_33 : decode cX5_see 33 = .ok (.ireturn, 1) := by decide +kernel
theorem dX5_see_34 : decode cX5_see 34 = .ok (.aload_n 0, 1) := by decide +kernel
theorem dX5_see_35 : decode cX5_see 35 = .ok (.getfield 38, 3) := by decide +kernel
theorem dX5_see_38 : decode cX5_see 38 = .ok (.iload_n 1, 1) := by decide +kernel
theorem dX5_see_39 : decode cX5_see 39 = .ok (.iaload, 1) := by decide +kernel
theorem dX5_see_40 : decode cX5_see 40 = .ok (.iconst (-1), 1) := by decide +kernel
theorem dX5_see_41 : decode cX5_see 41 = .ok (.if_icmp .ne 11, 3) := by decide +kernel
theorem dX5_see_44 : decode cX5_see 44 = .ok (.aload_n 0, 1) := by decide +kernel
theorem dX5_see_45 : decode cX5_see 45 = .ok (.iconst 1, 1) := by decide +kernel
theorem dX5_see_46 : decode cX5_see 46 = .ok (.invokevirtual 75, 3) := by decide +kernel
theorem dX5_see_49 : decode cX5_see 49 = .ok (.goto 14, 3) := by decide +kernel
theorem dX5_see_52 : decode cX5_see 52 = .ok (.aload_n 0, 1) := by decide +kernel
theorem dX5_see_53 : decode cX5_see 53 = .ok (.getfield 13, 3) := by decide +kernel
theorem dX5_see_56 : decode cX5_see 56 = .ok (.aload_n 0, 1) := by decide +kernel
theorem dX5_see_57 : decode cX5_see 57 = .ok (.getfield 38, 3) := by decide +kernel
theorem dX5_see_60 : decode cX5_see 60 = .ok (.iload_n 1, 1) := by decide +kernel
theorem dX5_see_61 : decode cX5_see 61 = .ok (.iaload, 1) := by decide +kernel
theorem dX5_see_62 : decode cX5_see 62 = .ok (.iaload, 1) := by decide +kernel
theorem dX5_see_63 : decode cX5_see 63 = .ok (.ireturn, 1) := by decide +kernel
set_option maxRecDepth 20000 in
theorem ggX5_change_X5_no : GoodIn wsX5_change wsX5_no := goodIn_r _ [7, 8, 9, 10, 11, 12, 13, 14, 15, 16, 17, 18, 19, 20, 21, 22, 23, 24, 25, 26] (by decide +kernel) (by decide +kernel)
set_option maxRecDepth 20000 in
theorem gX5_change_X5_no : GoodIn wsX5_change (wsV RX5 75 RX5 yX5_no wsX5_no) := goodIn_app (goodIn_of _ (by decide +kernel)) ggX5_change_X5_no
theorem dX5_change_0 : decode cX5_change 0 = .ok (.iload_n 1, 1) := by decide +kernel
theorem dX5_change_1 : decode cX5_change 1 = .ok (.bipush 12, 2) := by decide +kernel
theorem dX5_change_3 : decode cX5_change 3 = .ok (.if_icmp .le 5, 3) := by decide +kernel
theorem dX5_change_6 : decode cX5_change 6 = .ok (.iconst (-1), 1) := by decide +kernel
theorem dX5_change_7 : decode cX5_change 7 = .ok (.ireturn, 1) := by decide +kernel
theorem dX5_change_8 : decode cX5_change 8 = .ok (.iload_n 1, 1) := by decide +kernel
theorem dX5_change_9 : decode cX5_change 9 = .ok (.ifCond .ge 9, 3) := by decide +kernel
theorem dX5_change_12 : decode cX5_change 12 = .ok (.aload_n 0, 1) := by decide +kernel
theorem dX5_change_13 : decode cX5_change 13 = .ok (.iconst 4, 1) := by decide +kernel
theorem dX5_change_14 : decode cX5_change 14 = .ok (.invokevirtual 75, 3) := by decide +kernel
theorem dX5_change_17 : decode cX5_change 17 = .ok (.ireturn, 1) := by decide +kernel
theorem dX5_change_18 : decode cX5_change 18 = .ok (.aload_n 0, 1) := by decide +kernel
theorem dX5_change_19 : decode cX5_change 19 = .ok (.iload_n 1, 1) := by decide +kernel
theorem dX5_change_20 : decode cX5_change 20 = .ok (.putfield 41, 3) := by decide +kernel
theorem dX5_change_23 : decode cX5_change 23 = .ok (.iconst 0, 1) := by decide +kernel
theorem dX5_change_24 : decode cX5_change 24 = .ok (.istore_n 2, 1) := by decide +kernel
theorem dX5_change_25 : decode cX5_change 25 = .ok (.iload_n 2, 1) := by decide +kernel
theorem dX5_change_26 : decode cX5_change 26 = .ok (.bipush 12, 2) := by decide +kernel
theorem dX5_change_28 : decode cX5_change 28 = .ok (.if_icmp .ge 16, 3) := by decide +kernel
theorem dX5_change_31 : decode cX5_change 31 = .ok (.aload_n 0, 1) := by decide +kernel
theorem dX5_change_32 : decode cX5_change 32 = .ok (.getfield 44, 3) := by decide +kernel
theorem dX5_change_35 : decode cX5_change 35 = .ok (.iload_n 2, 1) := by decide +kernel
theorem dX5_change_36 : decode cX5_change 36 = .ok (.iconst 0, 1) := by decide +kernel
theorem dX5_change_37 : decode cX5_change 37 = .ok (.iastore, 1) := by decide +kernel
theorem dX5_change_38 : decode cX5_change 38 = .ok (.iinc 2 1, 3) := by decide +kernel
theorem dX5_change_41 : decode cX5_change 41 = .ok (.goto (-16), 3) := by decide +kernel
theorem dX5_change_44 : decode cX5_change 44 = .ok (.iload_n 1, 1) := by decide +kernel
theorem dX5_change_45 : decode cX5_change 45 = .ok (.ireturn, 1) := by decide +kernel
set_option maxRecDepth 20000 in
theorem ggX5_call_X5_in : GoodIn wsX5_call wsX5_in := goodIn_r _ [6] (by decide +kernel) (by decide +kernel)
set_option maxRecDepth 20000 in
theorem gX5_call_X5_in : GoodIn wsX5_call (va_wsS RX5 56 yX5_in wsX5_in) := goodIn_app (goodIn_of _ (by decide +kernel)) ggX5_call_X5_in
set_option maxRecDepth 20000 in
theorem ggX5_call_X5_no : GoodIn wsX5_call wsX5_no := goodIn_r _ [10, 11, 12, 13, 14, 15, 16, 17, 18, 19, 20, 21, 22, 23, 24, 25, 26, 27, 28, 29] (by decide +kernel) (by decide +kernel)
set_option maxRecDepth 20000 in
theorem gX5_call_X5_no : GoodIn wsX5_call (wsV RX5 75 RX5 yX5_no wsX5_no) := goodIn_app (goodIn_of _ (by decide +kernel)) ggX5_call_X5_no
theorem dX5_call_0 : decode cX5_call 0 = .ok (.iload_n 2, 1) := by decide +kernel
theorem dX5_call_1 : decode cX5_call 1 = .ok (.iconst 0, 1) := by decide +kernel
theorem dX5_call_2 : decode cX5_call 2 = .ok (.bipush 99, 2) := by decide +kernel
theorem dX5_call_4 : decode cX5_call 4 = .ok (.invokestatic 56, 3) := by decide +kernel
theorem dX5_call_7 : decode cX5_call 7 = .ok (.ifCond .ne 5, 3) := by decide +kernel
theorem dX5_call_10 : decode cX5_call 10 = .ok (.iconst (-1), 1) := by decide +kernel
theorem dX5_call_11 : decode cX5_call 11 = .ok (.ireturn, 1) := by decide +kernel
theorem dX5_call_12 : decode cX5_call 12 = .ok (.aload_n 0, 1) := by decide +kernel
theorem dX5_call_13 : decode cX5_call 13 = .ok (.getfield 41, 3) := by decide +kernel
theorem dX5_call_16 : decode cX5_call 16 = .ok (.iconst (-1), 1) := by decide +kernel
theorem dX5_call_17 : decode cX5_call 17 = .ok (.if_icmp .ne 9, 3) := by decide +kernel
theorem dX5_call_20 : decode cX5_call 20 = .ok (.aload_n 0, 1) := by decide +kernel
theorem dX5_call_21 : decode cX5_call 21 = .ok (.iconst 1, 1) := by decide +kernel
theorem dX5_call_22 : decode cX5_call 22 = .ok (.invokevirtual 75, 3) := by decide +kernel
theorem dX5_call_25 : decode cX5_call 25 = .ok (.ireturn, 1) := by decide +kernel
theorem dX5_call_26 : decode cX5_call 26 = .ok (.iload_n 1, 1) := by decide +kernel
theorem dX5_call_27 : decode cX5_call 27 = .ok (.iconst 0, 1) := by decide +kernel
theorem dX5_call_28 : decode cX5_call 28 = .ok (.aload_n 0, 1) := by decide +kernel
theorem dX5_call_29 : decode cX5_call 29 = .ok (.getfield 41, 3) := by decide +kernel
theorem dX5_call_32 : decode cX5_call 32 = .ok (.iconst 1, 1) := by decide +kernel
theorem dX5_call_33 : decode cX5_call 33 = .ok (.isub, 1) := by decide +kernel
theorem dX5_call_34 : decode cX5_call 34 = .ok (.invokestatic 56, 3) := by decide +kernel
theorem dX5_call_37 : decode cX5_call 37 = .ok (.ifCond .ne 9, 3) := by decide +kernel
theorem dX5_call_40 : decode cX5_call 40 = .ok (.aload_n 0, 1) := by decide +kernel
theorem dX5_call_41 : decode cX5_call 41 = .ok (.iconst 5, 1) := by decide +kernel
theorem dX5_call_42 : decode cX5_call 42 = .ok (.invokevirtual 75, 3) := by decide +kernel
theorem dX5_call_45 : decode cX5_call 45 = .ok (.ireturn, 1) := by decide +kernel
theorem dX5_call_46 : decode cX5_call 46 = .ok (.aload_n 0, 1) := by decide +kernel
theorem dX5_call_47 : decode cX5_call 47 = .ok (.getfield 44, 3) := by decide +kernel
theorem dX5_call_50 : decode cX5_call 50 = .ok (.iload_n 1, 1) := by decide +kernel
theorem dX5_call_51 : decode cX5_call 51 = .ok (.iload_n 2, 1) := by decide +kernel
theorem dX5_call_52 : decode cX5_call 52 = .ok (.iastore, 1) := by decide +kernel
theorem dX5_call_53 : decode cX5_call 53 = .ok (.iload_n 2, 1) := by decide +kernel
theorem dX5_call_54 : decode cX5_call 54 = .ok (.ireturn, 1) := by decide +kernel
set_option maxRecDepth 20000 in
theorem ggX5_strike_X5_no : GoodIn wsX5_strike wsX5_no := goodIn_r _ [9, 10, 26, 27, 28, 29, 30, 31, 32, 33, 34, 35, 36, 37, 38, 39, 40, 41, 42, 43] (by decide +kernel) (by decide +kernel)
set_option maxRecDepth 20000 in
theorem gX5_strike_X5_no : GoodIn wsX5_strike (wsV RX5 75 RX5 yX5_no wsX5_no) := goodIn_app (goodIn_of _ (by decide +kernel)) ggX5_strike_X5_no
set_option maxRecDepth 20000 in
theorem ggX5_strike_X5_in : GoodIn wsX5_strike wsX5_in := goodIn_r _ [13] (by decide +kernel) (by decide +kernel)
set_option maxRecDepth 20000 in
theorem gX5_strike_X5_in : GoodIn wsX5_strike (va_wsS RX5 56 yX5_in wsX5_in) := goodIn_app (goodIn_of _ (by decide +kernel)) ggX5_strike_X5_in
set_option maxRecDepth 20000 in
theorem ggX5_strike_X5_rings : GoodIn wsX5_strike wsX5_rings := goodIn_r _ [17, 18, 19, 20, 21, 22, 23, 24, 25, 26, 27, 28, 29, 30, 31, 32, 33, 34, 35, 36, 37, 38, 39, 40, 41, 42, 43] (by decide +kernel) (by decide +kernel)
set_option maxRecDepth 20000 in
theorem gX5_strike_X5_rings : GoodIn wsX5_strike (wsV RX5 85 RX5 yX5_rings wsX5_rings) := goodIn_app (goodIn_of _ (by decide +kernel)) ggX5_strike_X5_rings
theorem dX5_strike_0 : decode cX5_strike 0 = .ok (.aload_n 0, 1) := by decide +kernel
theorem dX5_strike_1 : decode cX5_strike 1 = .ok (.getfield 41, 3) := by decide +kernel
theorem dX5_strike_4 : decode cX5_strike 4 = .ok (.iconst (-1), 1) := by decide +kernel
theorem dX5_strike_5 : decode cX5_strike 5 = .ok (.if_icmp .ne 9, 3) := by decide +kernel
theorem dX5_strike_8 : decode cX5_strike 8 = .ok (.aload_n 0, 1) := by decide +kernel
theorem dX5_strike_9 : decode cX5_strike 9 = .ok (.iconst 1, 1) := by decide +kernel
theorem dX5_strike_10 : decode cX5_strike 10 = .ok (.invokevirtual 75, 3) := by decide +kernel
theorem dX5_strike_13 : decode cX5_strike 13 = .ok (.ireturn, 1) := by decide +kernel
theorem dX5_strike_14 : decode cX5_strike 14 = .ok (.iload_n 1, 1) := by decide +kernel
theorem dX5_strike_15 : decode cX5_strike 15 = .ok (.iconst 0, 1) := by decide +kernel
theorem dX5_strike_16 : decode cX5_strike 16 = .ok (.aload_n 0, 1) := by decide +kernel
theorem dX5_strike_17 : decode cX5_strike 17 = .ok (.getfield 41, 3) := by decide +kernel
theorem dX5_strike_20 : decode cX5_strike 20 = .ok (.iconst 1, 1) := by decide +kernel
theorem dX5_strike_21 : decode cX5_strike 21 = .ok (.isub, 1) := by decide +kernel
theorem dX5_strike_22 : decode cX5_strike 22 = .ok (.invokestatic 56, 3) := by decide +kernel
theorem dX5_strike_25 : decode cX5_strike 25 = .ok (.ifCond .ne 9, 3) := by decide +kernel
theorem dX5_strike_28 : decode cX5_strike 28 = .ok (.aload_n 0, 1) := by decide +kernel
theorem dX5_strike_29 : decode cX5_strike 29 = .ok (.iconst 5, 1) := by decide +kernel
theorem dX5_strike_30 : decode cX5_strike 30 = .ok (.invokevirtual 75, 3) := by decide +kernel
theorem dX5_strike_33 : decode cX5_strike 33 = .ok (.ireturn, 1) := by decide +kernel
theorem dX5_strike_34 : decode cX5_strike 34 = .ok (.aload_n 0, 1) := by decide +kernel
theorem dX5_strike_35 : decode cX5_strike 35 = .ok (.getfield 34, 3) := by decide +kernel
theorem dX5_strike_38 : decode cX5_strike 38 = .ok (.iconst (-1), 1) := by decide +kernel
theorem dX5_strike_39 : decode cX5_strike 39 = .ok (.if_icmp .ne 9, 3) := by decide +kernel
theorem dX5_strike_42 : decode cX5_strike 42 = .ok (.aload_n 0, 1) := by decide +kernel
theorem dX5_strike_43 : decode cX5_strike 43 = .ok (.iconst 1, 1) := by decide +kernel
theorem dX5_strike_44 : decode cX5_strike 44 = .ok (.invokevirtual 75, 3) := by decide +kernel
theorem dX5_strike_47 : decode cX5_strike 47 = .ok (.ireturn, 1) := by decide +kernel
theorem dX5_strike_48 : decode cX5_strike 48 = .ok (.aload_n 0, 1) := by decide +kernel
theorem dX5_strike_49 : decode cX5_strike 49 = .ok (.getfield 44, 3) := by decide +kernel
theorem dX5_strike_52 : decode cX5_strike 52 = .ok (.iload_n 1, 1) := by decide +kernel
theorem dX5_strike_53 : decode cX5_strike 53 = .ok (.iaload, 1) := by decide +kernel
theorem dX5_strike_54 : decode cX5_strike 54 = .ok (.istore_n 2, 1) := by decide +kernel
theorem dX5_strike_55 : decode cX5_strike 55 = .ok (.iload_n 2, 1) := by decide +kernel
theorem dX5_strike_56 : decode cX5_strike 56 = .ok (.iconst 0, 1) := by decide +kernel
theorem dX5_strike_57 : decode cX5_strike 57 = .ok (.aload_n 0, 1) := by decide +kernel
theorem dX5_strike_58 : decode cX5_strike 58 = .ok (.getfield 34, 3) := by decide +kernel
theorem dX5_strike_61 : decode cX5_strike 61 = .ok (.iconst 1, 1) := by decide +kernel
theorem dX5_strike_62 : decode cX5_strike 62 = .ok (.isub, 1) := by decide +kernel
theorem dX5_strike_63 : decode cX5_strike 63 = .ok (.invokestatic 56, 3) := by decide +kernel
theorem dX5_strike_66 : decode cX5_strike 66 = .ok (.ifCond .ne 9, 3) := by decide +kernel
theorem dX5_strike_69 : decode cX5_strike 69 = .ok (.aload_n 0, 1) := by decide +kernel
theorem dX5_strike_70 : decode cX5_strike 70 = .ok (.iconst 5, 1) := by decide +kernel
theorem dX5_strike_71 : decode cX5_strike 71 = .ok (.invokevirtual 75, 3) := by decide +kernel
theorem dX5_strike_74 : decode cX5_strike 74 = .ok (.ireturn, 1) := by decide +kernel
theorem dX5_strike_75 : decode cX5_strike 75 = .ok (.aload_n 0, 1) := by decide +kernel
theorem dX5_strike_76 : decode cX5_strike 76 = .ok (.getfield 38, 3) := by decide +kernel
theorem dX5_strike_79 : decode cX5_strike 79 = .ok (.iload_n 2, 1) := by decide +kernel
theorem dX5_strike_80 : decode cX5_strike 80 = .ok (.iaload, 1) := by decide +kernel
theorem dX5_strike_81 : decode cX5_strike 81 = .ok (.iconst (-1), 1) := by decide +kernel
theorem dX5_strike_82 : decode cX5_strike 82 = .ok (.if_icmp .ne 7, 3) := by decide +kernel
theorem dX5_strike_85 : decode cX5_strike 85 = .ok (.iconst (-1), 1) := by decide +kernel
theorem dX5_strike_86 : decode cX5_strike 86 = .ok (.goto 13, 3) := by decide +kernel
theorem dX5_strike_89 : decode cX5_strike 89 = .ok (.aload_n 0, 1) := by decide +kernel
theorem dX5_strike_90 : decode cX5_strike 90 = .ok (.aload_n 0, 1) := by decide +kernel
theorem dX5_strike_91 : decode cX5_strike 91 = .ok (.getfield 38, 3) := by decide +kernel
theorem dX5_strike_94 : decode cX5_strike 94 = .ok (.iload_n 2, 1) := by decide +kernel
theorem dX5_strike_95 : decode cX5_strike 95 = .ok (.iaload, 1) := by decide +kernel
theorem dX5_strike_96 : decode cX5_strike 96 = .ok (.invokevirtual 85, 3) := by decide +kernel
theorem dX5_strike_99 : decode cX5_strike 99 = .ok (.istore_n 3, 1) := by decide +kernel
theorem dX5_strike_100 : decode cX5_strike 100 = .ok (.iload_n 3, 1) := by decide +kernel
theorem dX5_strike_101 : decode cX5_strike 101 = .ok (.ifCond .ge 12, 3) := by decide +kernel
theorem dX5_strike_104 : decode cX5_strike 104 = .ok (.aload_n 0, 1) := by decide +kernel
theorem dX5_strike_105 : decode cX5_strike 105 = .ok (.iload_n 3, 1) := by decide +kernel
theorem dX5_strike_106 : decode cX5_strike 106 = .ok (.ineg, 1) := by decide +kernel
theorem dX5_strike_107 : decode cX5_strike 107 = .ok (.invokevirtual 75, 3) := by decide +kernel
theorem dX5_strike_110 : decode cX5_strike 110 = .ok (.goto 4, 3) := by decide +kernel
theorem dX5_strike_113 : decode cX5_strike 113 = .ok (.iload_n 3, 1) := by decide +kernel
theorem dX5_strike_114 : decode cX5_strike 114 = .ok (.ireturn, 1) := by decide +kernel
set_option maxRecDepth 20000 in
theorem ggX5_chime_X5_in : GoodIn wsX5_chime wsX5_in := goodIn_r _ [5] (by decide +kernel) (by decide +kernel)
set_option maxRecDepth 20000 in
theorem gX5_chime_X5_in : GoodIn wsX5_chime (va_wsS RX5 56 yX5_in wsX5_in) := goodIn_app (goodIn_of _ (by decide +kernel)) ggX5_chime_X5_in
set_option maxRecDepth 20000 in
theorem ggX5_chime_X5_no : GoodIn wsX5_chime wsX5_no := goodIn_r _ [9, 10, 30, 31, 32, 33, 34, 35, 36, 37, 38, 39, 40, 41, 42, 43, 44, 45, 46, 47] (by decide +kernel) (by decide +kernel)
set_option maxRecDepth 20000 in
theorem gX5_chime_X5_no : GoodIn wsX5_chime (wsV RX5 75 RX5 yX5_no wsX5_no) := goodIn_app (goodIn_of _ (by decide +kernel)) ggX5_chime_X5_no
set_option maxRecDepth 20000 in
theorem ggX5_chime_X5_strike : GoodIn wsX5_chime wsX5_strike := goodIn_r _ [14, 1, 15, 16, 17, 6, 7, 8, 4, 9, 10, 2, 3, 5, 18, 19, 20, 21, 22, 23, 24, 25, 26, 27, 28, 29, 30, 31, 32, 33, 34, 35, 36, 37, 38, 39, 40, 41, 42, 43, 44, 45, 46, 47] (by decide +kernel) (by decide +kernel)
set_option maxRecDepth 20000 in
theorem gX5_chime_X5_strike : GoodIn wsX5_chime (wsV RX5 95 RX5 yX5_strike wsX5_strike) := goodIn_app (goodIn_of _ (by decide +kernel)) ggX5_chime_X5_strike
theorem dX5_chime_0 : decode cX5_chime 0 = .ok (.iload_n 1, 1) := by decide +kernel
theorem dX5_chime_1 : decode cX5_chime 1 = .ok (.iconst 0, 1) := by decide +kernel
theorem dX5_chime_2 : decode cX5_chime 2 = .ok (.iconst 1, 1) := by decide +kernel
theorem dX5_chime_3 : decode cX5_chime 3 = .ok (.invokestatic 56, 3) := by decide +kernel
theorem dX5_chime_6 : decode cX5_chime 6 = .ok (.ifCond .ne 5, 3) := by decide +kernel
theorem dX5_chime_9 : decode cX5_chime 9 = .ok (.iconst (-1), 1) := by decide +kernel
theorem dX5_chime_10 : decode cX5_chime 10 = .ok (.ireturn, 1) := by decide +kernel
theorem dX5_chime_11 : decode cX5_chime 11 = .ok (.aload_n 0, 1) := by decide +kernel
theorem dX5_chime_12 : decode cX5_chime 12 = .ok (.getfield 41, 3) := by decide +kernel
theorem dX5_chime_15 : decode cX5_chime 15 = .ok (.iconst (-1), 1) := by decide +kernel
theorem dX5_chime_16 : decode cX5_chime 16 = .ok (.if_icmp .ne 9, 3) := by decide +kernel
theorem dX5_chime_19 : decode cX5_chime 19 = .ok (.aload_n 0, 1) := by decide +kernel
theorem dX5_chime_20 : decode cX5_chime 20 = .ok (.iconst 1, 1) := by decide +kernel
theorem dX5_chime_21 : decode cX5_chime 21 = .ok (.invokevirtual 75, 3) := by decide +kernel
theorem dX5_chime_24 : decode cX5_chime 24 = .ok (.ireturn, 1) := by decide +kernel
theorem dX5_chime_25 : decode cX5_chime 25 = .ok (.iconst 0, 1) := by decide +kernel
theorem dX5_chime_26 : decode cX5_chime 26 = .ok (.istore_n 2, 1) := by decide +kernel
theorem dX5_chime_27 : decode cX5_chime 27 = .ok (.iconst 0, 1) := by decide +kernel
theorem dX5_chime_28 : decode cX5_chime 28 = .ok (.istore_n 3, 1) := by decide +kernel
theorem dX5_chime_29 : decode cX5_chime 29 = .ok (.iload_n 3, 1) := by decide +kernel
theorem dX5_chime_30 : decode cX5_chime 30 = .ok (.aload_n 0, 1) := by decide +kernel
theorem dX5_chime_31 : decode cX5_chime 31 = .ok (.getfield 41, 3) := by decide +kernel
theorem dX5_chime_34 : decode cX5_chime 34 = .ok (.if_icmp .ge 42, 3) := by decide +kernel
theorem dX5_chime_37 : decode cX5_chime 37 = .ok (.aload_n 0, 1) := by decide +kernel
theorem dX5_chime_38 : decode cX5_chime 38 = .ok (.iload_n 3, 1) := by decide +kernel
theorem dX5_chime_39 : decode cX5_chime 39 = .ok (.invokevirtual 95, 3) := by decide +kernel
theorem dX5_chime_42 : decode cX5_chime 42 = .ok (.istore 4, 2) := by decide +kernel
theorem dX5_chime_44 : decode cX5_chime 44 = .ok (.iload 4, 2) := by decide +kernel
theorem dX5_chime_46 : decode cX5_chime 46 = .ok (.ifCond .ge 11, 3) := by decide +kernel
theorem dX5_chime_49 : decode cX5_chime 49 = .ok (.iload_n 1, 1) := by decide +kernel
theorem dX5_chime_50 : decode cX5_chime 50 = .ok (.iconst 1, 1) := by decide +kernel
theorem dX5_chime_51 : decode cX5_chime 51 = .ok (.if_icmp .ne 6, 3) := by decide +kernel
theorem dX5_chime_54 : decode cX5_chime 54 = .ok (.iload 4, 2) := by decide +kernel
theorem dX5_chime_56 : decode cX5_chime 56 = .ok (.ireturn, 1) := by decide +kernel
theorem dX5_chime_57 : decode cX5_chime 57 = .ok (.iload_n 2, 1) := by decide +kernel
theorem dX5_chime_58 : decode cX5_chime 58 = .ok (.iload 4, 2) := by decide +kernel
theorem dX5_chime_60 : decode cX5_chime 60 = .ok (.ifCond .ge 7, 3) := by decide +kernel
theorem dX5_chime_63 : decode cX5_chime 63 = .ok (.iconst 0, 1) := by decide +kernel
theorem dX5_chime_64 : decode cX5_chime 64 = .ok (.goto 4, 3) := by decide +kernel
theorem dX5_chime_67 : decode cX5_chime 67 = .ok (.iconst 1, 1) := by decide +kernel
theorem dX5_chime_68 : decode cX5_chime 68 = .ok (.iadd, 1) := by decide +kernel
theorem dX5_chime_69 : decode cX5_chime 69 = .ok (.istore_n 2, 1) := by decide +kernel
theorem dX5_chime_70 : decode cX5_chime 70 = .ok (.iinc 3 1, 3) := by decide +kernel
theorem dX5_chime_73 : decode cX5_chime 73 = .ok (.goto (-44), 3) := by decide +kernel
theorem dX5_chime_76 : decode cX5_chime 76 = .ok (.iload_n 2, 1) := by decide +kernel
theorem dX5_chime_77 : decode cX5_chime 77 = .ok (.ireturn, 1) := by decide +kernel
set_option maxRecDepth 20000 in
theorem ggX5_peal_X5_no : GoodIn wsX5_peal wsX5_no := goodIn_r _ [8, 9, 10, 11, 12, 13, 14, 15, 16, 17, 18, 19, 20, 21, 22, 23, 24, 25, 26, 27] (by decide +kernel) (by decide +kernel)
set_option maxRecDepth 20000 in
theorem gX5_peal_X5_no : GoodIn wsX5_peal (wsV RX5 75 RX5 yX5_no wsX5_no) := goodIn_app (goodIn_of _ (by decide +kernel)) ggX5_peal_X5_no
theorem dX5_peal_0 : decode cX5_peal 0 = .ok (.iload_n 1, 1) := by decide +kernel
theorem dX5_peal_1 : decode cX5_peal 1 = .ok (.bipush 12, 2) := by decide +kernel
theorem dX5_peal_3 : decode cX5_peal 3 = .ok (.if_icmp .gt 9, 3) := by decide +kernel
theorem dX5_peal_6 : decode cX5_peal 6 = .ok (.iload_n 2, 1) := by decide +kernel
theorem dX5_peal_7 : decode cX5_peal 7 = .ok (.bipush 12, 2) := by decide +kernel
theorem dX5_peal_9 : decode cX5_peal 9 = .ok (.if_icmp .le 5, 3) := by decide +kernel
theorem dX5_peal_12 : decode cX5_peal 12 = .ok (.iconst (-1), 1) := by decide +kernel
theorem dX5_peal_13 : decode cX5_peal 13 = .ok (.ireturn, 1) := by decide +kernel
theorem dX5_peal_14 : decode cX5_peal 14 = .ok (.iload_n 1, 1) := by decide +kernel
theorem dX5_peal_15 : decode cX5_peal 15 = .ok (.ifCond .lt 7, 3) := by decide +kernel
theorem dX5_peal_18 : decode cX5_peal 18 = .ok (.iload_n 2, 1) := by decide +kernel
theorem dX5_peal_19 : decode cX5_peal 19 = .ok (.ifCond .ge 9, 3) := by decide +kernel
theorem dX5_peal_22 : decode cX5_peal 22 = .ok (.aload_n 0, 1) := by decide +kernel
theorem dX5_peal_23 : decode cX5_peal 23 = .ok (.iconst 4, 1) := by decide +kernel
theorem dX5_peal_24 : decode cX5_peal 24 = .ok (.invokevirtual 75, 3) := by decide +kernel
theorem dX5_peal_27 : decode cX5_peal 27 = .ok (.ireturn, 1) := by decide +kernel
theorem dX5_peal_28 : decode cX5_peal 28 = .ok (.aload_n 0, 1) := by decide +kernel
theorem dX5_peal_29 : decode cX5_peal 29 = .ok (.iload_n 1, 1) := by decide +kernel
theorem dX5_peal_30 : decode cX5_peal 30 = .ok (.putfield 47, 3) := by decide +kernel
theorem dX5_peal_33 : decode cX5_peal 33 = .ok (.aload_n 0, 1) := by decide +kernel
theorem dX5_peal_34 : decode cX5_peal 34 = .ok (.iload_n 2, 1) := by decide +kernel
theorem dX5_peal_35 : decode cX5_peal 35 = .ok (.putfield 98, 3) := by decide +kernel
theorem dX5_peal_38 : decode cX5_peal 38 = .ok (.iconst 0, 1) := by decide +kernel
theorem dX5_peal_39 : decode cX5_peal 39 = .ok (.istore_n 3, 1) := by decide +kernel
theorem dX5_peal_40 : decode cX5_peal 40 = .ok (.iload_n 3, 1) := by decide +kernel
theorem dX5_peal_41 : decode cX5_peal 41 = .ok (.sipush 144, 3) := by decide +kernel
theorem dX5_peal_44 : decode cX5_peal 44 = .ok (.if_icmp .ge 16, 3) := by decide +kernel
theorem dX5_peal_47 : decode cX5_peal 47 = .ok (.aload_n 0, 1) := by decide +kernel
theorem dX5_peal_48 : decode cX5_peal 48 = .ok (.getfield 50, 3) := by decide +kernel
theorem dX5_peal_51 : decode cX5_peal 51 = .ok (.iload_n 3, 1) := by decide +kernel
theorem dX5_peal_52 : decode cX5_peal 52 = .ok (.iconst 0, 1) := by decide +kernel
theorem dX5_peal_53 : decode cX5_peal 53 = .ok (.iastore, 1) := by decide +kernel
theorem dX5_peal_54 : decode cX5_peal 54 = .ok (.iinc 3 1, 3) := by decide +kernel
theorem dX5_peal_57 : decode cX5_peal 57 = .ok (.goto (-17), 3) := by decide +kernel
theorem dX5_peal_60 : decode cX5_peal 60 = .ok (.iload_n 1, 1) := by decide +kernel
theorem dX5_peal_61 : decode cX5_peal 61 = .ok (.iload_n 2, 1) := by decide +kernel
theorem dX5_peal_62 : decode cX5_peal 62 = .ok (.imul, 1) := by decide +kernel
theorem dX5_peal_63 : decode cX5_peal 63 = .ok (.ireturn, 1) := by decide +kernel
set_option maxRecDepth 20000 in
theorem ggX5_mark_X5_in : GoodIn wsX5_mark wsX5_in := goodIn_r _ [7] (by decide +kernel) (by decide +kernel)
set_option maxRecDepth 20000 in
theorem gX5_mark_X5_in : GoodIn wsX5_mark (va_wsS RX5 56 yX5_in wsX5_in) := goodIn_app (goodIn_of _ (by decide +kernel)) ggX5_mark_X5_in
set_option maxRecDepth 20000 in
theorem ggX5_mark_X5_no : GoodIn wsX5_mark wsX5_no := goodIn_r _ [11, 12, 13, 14, 15, 16, 17, 18, 19, 20, 21, 22, 23, 24, 25, 26, 27, 28, 29, 30] (by decide +kernel) (by decide +kernel)
set_option maxRecDepth 20000 in
theorem gX5_mark_X5_no : GoodIn wsX5_mark (wsV RX5 75 RX5 yX5_no wsX5_no) := goodIn_app (goodIn_of _ (by decide +kernel)) ggX5_mark_X5_no
theorem dX5_mark_0 : decode cX5_mark 0 = .ok (.iload_n 3, 1) := by decide +kernel
theorem dX5_mark_1 : decode cX5_mark 1 = .ok (.iconst 0, 1) := by decide +kernel
theorem dX5_mark_2 : decode cX5_mark 2 = .ok (.bipush 99, 2) := by decide +kernel
theorem dX5_mark_4 : decode cX5_mark 4 = .ok (.invokestatic 56, 3) := by decide +kernel
theorem dX5_mark_7 : decode cX5_mark 7 = .ok (.ifCond .ne 5, 3) := by decide +kernel
theorem dX5_mark_10 : decode cX5_mark 10 = .ok (.iconst (-1), 1) := by decide +kernel
theorem dX5_mark_11 : decode cX5_mark 11 = .ok (.ireturn, 1) := by decide +kernel
theorem dX5_mark_12 : decode cX5_mark 12 = .ok (.aload_n 0, 1) := by decide +kernel
theorem dX5_mark_13 : decode cX5_mark 13 = .ok (.getfield 47, 3) := by decide +kernel
theorem dX5_mark_16 : decode cX5_mark 16 = .ok (.iconst (-1), 1) := by decide +kernel
theorem dX5_mark_17 : decode cX5_mark 17 = .ok (.if_icmp .ne 9, 3) := by decide +kernel
theorem dX5_mark_20 : decode cX5_mark 20 = .ok (.aload_n 0, 1) := by decide +kernel
theorem dX5_mark_21 : decode cX5_mark 21 = .ok (.iconst 1, 1) := by decide +kernel
theorem dX5_mark_22 : decode cX5_mark 22 = .ok (.invokevirtual 75, 3) := by decide +kernel
theorem dX5_mark_25 : decode cX5_mark 25 = .ok (.ireturn, 1) := by decide +kernel
theorem dX5_mark_26 : decode cX5_mark 26 = .ok (.iload_n 1, 1) := by decide +kernel
theorem dX5_mark_27 : decode cX5_mark 27 = .ok (.iconst 0, 1) := by decide +kernel
theorem dX5_mark_28 : decode cX5_mark 28 = .ok (.aload_n 0, 1) := by decide +kernel
theorem dX5_mark_29 : decode cX5_mark 29 = .ok (.getfield 47, 3) := by decide +kernel
theorem dX5_mark_32 : decode cX5_mark 32 = .ok (.iconst 1, 1) := by decide +kernel
theorem dX5_mark_33 : decode cX5_mark 33 = .ok (.isub, 1) := by decide +kernel
theorem dX5_mark_34 : decode cX5_mark 34 = .ok (.invokestatic 56, 3) := by decide +kernel
theorem dX5_mark_37 : decode cX5_mark 37 = .ok (.ifCond .eq 17, 3) := by decide +kernel
theorem dX5_mark_40 : decode cX5_mark 40 = .ok (.iload_n 2, 1) := by decide +kernel
theorem dX5_mark_41 : decode cX5_mark 41 = .ok (.iconst 0, 1) := by decide +kernel
theorem dX5_mark_42 : decode cX5_mark 42 = .ok (.aload_n 0, 1) := by decide +kernel
theorem dX5_mark_43 : decode cX5_mark 43 = .ok (.getfield 98, 3) := by decide +kernel
theorem dX5_mark_46 : decode cX5_mark 46 = .ok (.iconst 1, 1) := by decide +kernel
theorem dX5_mark_47 : decode cX5_mark 47 = .ok (.isub, 1) := by decide +kernel
theorem dX5_mark_48 : decode cX5_mark 48 = .ok (.invokestatic 56, 3) := by decide +kernel
theorem dX5_mark_51 : decode cX5_mark 51 = .ok (.ifCond .ne 9, 3) := by decide +kernel
theorem dX5_mark_54 : decode cX5_mark 54 = .ok (.aload_n 0, 1) := by decide +kernel
theorem dX5_mark_55 : decode cX5_mark 55 = .ok (.iconst 5, 1) := by decide +kernel
theorem dX5_mark_56 : decode cX5_mark 56 = .ok (.invokevirtual 75, 3) := by decide +kernel
theorem dX5_mark_59 : decode cX5_mark 59 = .ok (.ireturn, 1) := by decide +kernel
theorem dX5_mark_60 : decode cX5_mark 60 = .ok (.aload_n 0, 1) := by decide +kernel
theorem dX5_mark_61 : decode cX5_mark 61 = .ok (.getfield 50, 3) := by decide +kernel
theorem dX5_mark_64 : decode cX5_mark 64 = .ok (.bipush 12, 2) := by decide +kernel
theorem dX5_mark_66 : decode cX5_mark 66 = .ok (.iload_n 1, 1) := by decide +kernel
theorem dX5_mark_67 : decode cX5_mark 67 = .ok (.imul, 1) := by decide +kernel
theorem dX5_mark_68 : decode cX5_mark 68 = .ok (.iload_n 2, 1) := by decide +kernel
theorem dX5_mark_69 : decode cX5_mark 69 = .ok (.iadd, 1) := by decide +kernel
theorem dX5_mark_70 : decode cX5_mark 70 = .ok (.iload_n 3, 1) := by decide +kernel
theorem dX5_mark_71 : decode cX5_mark 71 = .ok (.iastore, 1) := by decide +kernel
theorem dX5_mark_72 : decode cX5_mark 72 = .ok (.iload_n 3, 1) := by decide +kernel
theorem dX5_mark_73 : decode cX5_mark 73 = .ok (.ireturn, 1) := by decide +kernel
set_option maxRecDepth 20000 in
theorem ggX5_marked_X5_no : GoodIn wsX5_marked wsX5_no := goodIn_r _ [8, 9, 13, 14, 15, 16, 17, 18, 19, 20, 21, 22, 23, 24, 25, 26, 27, 28, 29, 30] (by decide +kernel) (by decide +kernel)
set_option maxRecDepth 20000 in
theorem gX5_marked_X5_no : GoodIn wsX5_marked (wsV RX5 75 RX5 yX5_no wsX5_no) := goodIn_app (goodIn_of _ (by decide +kernel)) ggX5_marked_X5_no
set_option maxRecDepth 20000 in
theorem ggX5_marked_X5_in : GoodIn wsX5_marked wsX5_in := goodIn_r _ [12] (by decide +kernel) (by decide +kernel)
set_option maxRecDepth 20000 in
theorem gX5_marked_X5_in : GoodIn wsX5_marked (va_wsS RX5 56 yX5_in wsX5_in) := goodIn_app (goodIn_of _ (by decide +kernel)) ggX5_marked_X5_in
theorem dX5_marked_0 : decode cX5_marked 0 = .ok (.aload_n 0, 1) := by decide +kernel
theorem dX5_marked_1 : decode cX5_marked 1 = .ok (.getfield 47, 3) := by decide +kernel
theorem dX5_marked_4 : decode cX5_marked 4 = .ok (.iconst (-1), 1) := by decide +kernel
theorem dX5_marked_5 : decode cX5_marked 5 = .ok (.if_icmp .ne 9, 3) := by decide +kernel
theorem dX5_marked_8 : decode cX5_marked 8 = .ok (.aload_n 0, 1) := by decide +kernel
theorem dX5_marked_9 : decode cX5_marked 9 = .ok (.iconst 1, 1) := by decide +kernel
theorem dX5_marked_10 : decode cX5_marked 10 = .ok (.invokevirtual 75, 3) := by decide +kernel
theorem dX5_marked_13 : decode cX5_marked 13 = .ok (.ireturn, 1) := by decide +kernel
theorem dX5_marked_14 : decode cX5_marked 14 = .ok (.iload_n 1, 1) := by decide +kernel
theorem dX5_marked_15 : decode cX5_marked 15 = .ok (.iconst 0, 1) := by decide +kernel
theorem dX5_marked_16 : decode cX5_marked 16 = .ok (.aload_n 0, 1) := by decide +kernel
theorem dX5_marked_17 : decode cX5_marked 17 = .ok (.getfield 47, 3) := by decide +kernel
theorem dX5_marked_20 : decode cX5_marked 20 = .ok (.iconst 1, 1) := by decide +kernel
theorem dX5_marked_21 : decode cX5_marked 21 = .ok (.isub, 1) := by decide +kernel
theorem dX5_marked_22 : decode cX5_marked 22 = .ok (.invokestatic 56, 3) := by decide +kernel
theorem dX5_marked_25 : decode cX5_marked 25 = .ok (.ifCond .eq 17, 3) := by decide +kernel
theorem dX5_marked_28 : decode cX5_marked 28 = .ok (.iload_n 2, 1) := by decide +kernel
theorem dX5_marked_29 : decode cX5_marked 29 = .ok (.iconst 0, 1) := by decide +kernel
theorem dX5_marked_30 : decode cX5_marked 30 = .ok (.aload_n 0, 1) := by decide +kernel
theorem dX5_marked_31 : decode cX5_marked 31 = .ok (.getfield 98, 3) := by decide +kernel
theorem dX5_marked_34 : decode cX5_marked 34 = .ok (.iconst 1, 1) := by decide +kernel
theorem dX5_marked_35 : decode cX5_marked 35 = .ok (.isub, 1) := by decide +kernel
theorem dX5_marked_36 : decode cX5_marked 36 = .ok (.invokestatic 56, 3) := by decide +kernel
theorem dX5_marked_39 : decode cX5_marked 39 = .ok (.ifCond .ne 11, 3) := by decide +kernel
theorem dX5_marked_42 : decode cX5_marked 42 = .ok (.aload_n 0, 1) := by decide +kernel
theorem dX5_marked_43 : decode cX5_marked 43 = .ok (.iconst 5, 1) := by decide +kernel
theorem dX5_marked_44 : decode cX5_marked 44 = .ok (.invokevirtual 75, 3) := by decide +kernel
theorem dX5_marked_47 : decode cX5_marked 47 = .ok (.goto 14, 3) := by decide +kernel
theorem dX5_marked_50 : decode cX5_marked 50 = .ok (.aload_n 0, 1) := by decide +kernel
theorem dX5_marked_51 : decode cX5_marked 51 = .ok (.getfield 50, 3) := by decide +kernel
theorem dX5_marked_54 : decode cX5_marked 54 = .ok (.bipush 12, 2) := by decide +kernel
theorem dX5_marked_56 : decode cX5_marked 56 = .ok (.iload_n 1, 1) := by decide +kernel
theorem dX5_marked_57 : decode cX5_marked 57 = .ok (.imul, 1) := by decide +kernel
theorem dX5_marked_58 : decode cX5_marked 58 = .ok (.iload_n 2, 1) := by decide +kernel
theorem dX5_marked_59 : decode cX5_marked 59 = .ok (.iadd, 1) := by decide +kernel
theorem dX5_marked_60 : decode cX5_marked 60 = .ok (.iaload, 1) := by decide +kernel
theorem dX5_marked_61 : decode cX5_marked 61 = .ok (.ireturn, 1) := by decide +kernel
set_option maxRecDepth 20000 in
theorem ggX5_away_X5_in : GoodIn wsX5_away wsX5_in := goodIn_r _ [7] (by decide +kernel) (by decide +kernel)
set_option maxRecDepth 20000 in
theorem gX5_away_X5_in : GoodIn wsX5_away (va_wsS RX5 56 yX5_in wsX5_in) := goodIn_app (goodIn_of _ (by decide +kernel)) ggX5_away_X5_in
theorem dX5_away_0 : decode cX5_away 0 = .ok (.iload_n 1, 1) := by decide +kernel
theorem dX5_away_1 : decode cX5_away 1 = .ok (.iconst 0, 1) := by decide +kernel
theorem dX5_away_2 : decode cX5_away 2 = .ok (.iconst 2, 1) := by decide +kernel
theorem dX5_away_3 : decode cX5_away 3 = .ok (.invokestatic 56, 3) := by decide +kernel
theorem dX5_away_6 : decode cX5_away 6 = .ok (.ifCond .ne 5, 3) := by decide +kernel
theorem dX5_away_9 : decode cX5_away 9 = .ok (.iconst (-1), 1) := by decide +kernel
theorem dX5_away_10 : decode cX5_away 10 = .ok (.ireturn, 1) := by decide +kernel
theorem dX5_away_11 : decode cX5_away 11 = .ok (.iload_n 1, 1) := by decide +kernel
theorem dX5_away_12 : decode cX5_away 12 = .ok (.ifCond .ne 19, 3) := by decide +kernel
theorem dX5_away_15 : decode cX5_away 15 = .ok (.aload_n 0, 1) := by decide +kernel
theorem dX5_away_16 : decode cX5_away 16 = .ok (.getfield 34, 3) := by decide +kernel
theorem dX5_away_19 : decode cX5_away 19 = .ok (.iconst (-1), 1) := by decide +kernel
theorem dX5_away_20 : decode cX5_away 20 = .ok (.if_icmp .eq 7, 3) := by decide +kernel
theorem dX5_away_23 : decode cX5_away 23 = .ok (.iconst 1, 1) := by decide +kernel
theorem dX5_away_24 : decode cX5_away 24 = .ok (.goto 41, 3) := by decide +kernel
theorem dX5_away_27 : decode cX5_away 27 = .ok (.iconst 0, 1) := by decide +kernel
theorem dX5_away_28 : decode cX5_away 28 = .ok (.goto 37, 3) := by decide +kernel
theorem dX5_away_31 : decode cX5_away 31 = .ok (.iload_n 1, 1) := by decide +kernel
theorem dX5_away_32 : decode cX5_away 32 = .ok (.iconst 1, 1) := by decide +kernel
theorem dX5_away_33 : decode cX5_away 33 = .ok (.if_icmp .ne 19, 3) := by decide +kernel
theorem dX5_away_36 : decode cX5_away 36 = .ok (.aload_n 0, 1) := by decide +kernel
theorem dX5_away_37 : decode cX5_away 37 = .ok (.getfield 41, 3) := by decide +kernel
theorem dX5_away_40 : decode cX5_away 40 = .ok (.iconst (-1), 1) := by decide +kernel
theorem dX5_away_41 : decode cX5_away 41 = .ok (.if_icmp .eq 7, 3) := by decide +kernel
theorem dX5_away_44 : decode cX5_away 44 = .ok (.iconst 1, 1) := by decide +kernel
theorem dX5_away_45 : decode cX5_away 45 = .ok (.goto 20, 3) := by decide +kernel
theorem dX5_away_48 : decode cX5_away 48 = .ok (.iconst 0, 1) := by decide +kernel
theorem dX5_away_49 : decode cX5_away 49 = .ok (.goto 16, 3) := by decide +kernel
theorem dX5_away_52 : decode cX5_away 52 = .ok (.aload_n 0, 1) := by decide +kernel
theorem dX5_away_53 : decode cX5_away 53 = .ok (.getfield 47, 3) := by decide +kernel
theorem dX5_away_56 : decode cX5_away 56 = .ok (.iconst (-1), 1) := by decide +kernel
theorem dX5_away_57 : decode cX5_away 57 = .ok (.if_icmp .eq 7, 3) := by decide +kernel
theorem dX5_away_60 : decode cX5_away 60 = .ok (.iconst 1, 1) := by decide +kernel
theorem dX5_away_61 : decode cX5_away 61 = .ok (.goto 4, 3) := by decide +kernel
theorem dX5_away_64 : decode cX5_away 64 = .ok (.iconst 0, 1) := by decide +kernel
theorem dX5_away_65 : decode cX5_away 65 = .ok (.istore_n 2, 1) := by decide +kernel
theorem dX5_away_66 : decode cX5_away 66 = .ok (.aload_n 0, 1) := by decide +kernel
theorem dX5_away_67 : decode cX5_away 67 = .ok (.iload_n 1, 1) := by decide +kernel
theorem dX5_away_68 : decode cX5_away 68 = .ok (.ifCond .ne 7, 3) := by decide +kernel
theorem dX5_away_71 : decode cX5_away 71 = .ok (.iconst (-1), 1) := by decide +kernel
theorem dX5_away_72 : decode cX5_away 72 = .ok (.goto 7, 3) := by decide +kernel
theorem dX5_away_75 : decode cX5_away 75 = .ok (.aload_n 0, 1) := by decide +kernel
theorem dX5_away_76 : decode cX5_away 76 = .ok (.getfield 34, 3) := by decide +kernel
theorem dX5_away_79 : decode cX5_away 79 = .ok (.putfield 34, 3) := by decide +kernel
theorem dX5_away_82 : decode cX5_away 82 = .ok (.aload_n 0, 1) := by decide +kernel
theorem dX5_away_83 : decode cX5_away 83 = .ok (.iload_n 1, 1) := by decide +kernel
theorem dX5_away_84 : decode cX5_away 84 = .ok (.iconst 1, 1) := by decide +kernel
theorem dX5_away_85 : decode cX5_away 85 = .ok (.if_icmp .ne 7, 3) := by decide +kernel
theorem dX5_away_88 : decode cX5_away 88 = .ok (.iconst (-1), 1) := by decide +kernel
theorem dX5_away_89 : decode cX5_away 89 = .ok (.goto 7, 3) := by decide +kernel
theorem dX5_away_92 : decode cX5_away 92 = .ok (.aload_n 0, 1) := by decide +kernel
theorem dX5_away_93 : decode cX5_away 93 = .ok (.getfield 41, 3) := by decide +kernel
theorem dX5_away_96 : decode cX5_away 96 = .ok (.putfield 41, 3) := by decide +kernel
theorem dX5_away_99 : decode cX5_away 99 = .ok (.aload_n 0, 1) := by decide +kernel
theorem dX5_away_100 : decode cX5_away 100 = .ok (.iload_n 1, 1) := by decide +kernel
theorem dX5_away_101 : decode cX5_away 101 = .ok (.iconst 2, 1) := by decide +kernel
theorem dX5_away_102 : decode cX5_away 102 = .ok (.if_icmp .ne 7, 3) := by decide +kernel
theorem dX5_away_105 : decode cX5_away 105 = .ok (.iconst (-1), 1) := by decide +kernel
theorem dX5_away_106 : decode cX5_away 106 = .ok (.goto 7, 3) := by decide +kernel
theorem dX5_away_109 : decode cX5_away 109 = .ok (.aload_n 0, 1) := by decide +kernel
theorem dX5_away_110 : decode cX5_away 110 = .ok (.getfield 47, 3) := by decide +kernel
theorem dX5_away_113 : decode cX5_away 113 = .ok (.putfield 47, 3) := by decide +kernel
theorem dX5_away_116 : decode cX5_away 116 = .ok (.iload_n 2, 1) := by decide +kernel
theorem dX5_away_117 : decode cX5_away 117 = .ok (.ifCond .eq 7, 3) := by decide +kernel
theorem dX5_away_120 : decode cX5_away 120 = .ok (.iconst 1, 1) := by decide +kernel
theorem dX5_away_121 : decode cX5_away 121 = .ok (.goto 4, 3) := by decide +kernel
theorem dX5_away_124 : decode cX5_away 124 = .ok (.iconst 0, 1) := by decide +kernel
theorem dX5_away_125 : decode cX5_away 125 = .ok (.ireturn, 1) := by decide +kernel
set_option maxRecDepth 20000 in
theorem ggX5_about_X5_isHook : GoodIn wsX5_about wsX5_isHook := goodIn_r _ [12, 13, 14, 11, 15] (by decide +kernel) (by decide +kernel)
set_option maxRecDepth 20000 in
theorem gX5_about_X5_isHook : GoodIn wsX5_about (va_wsS RX5 68 yX5_isHook wsX5_isHook) := goodIn_app (goodIn_of _ (by decide +kernel)) ggX5_about_X5_isHook
set_option maxRecDepth 20000 in
theorem ggX5_about_X5_in : GoodIn wsX5_about wsX5_in := goodIn_r _ [15] (by decide +kernel) (by decide +kernel)
set_option maxRecDepth 20000 in
theorem gX5_about_X5_in : GoodIn wsX5_about (va_wsS RX5 56 yX5_in wsX5_in) := goodIn_app (goodIn_of _ (by decide +kernel)) ggX5_about_X5_in
theorem dX5_about_0 : decode cX5_about 0 = .ok (.iload_n 1, 1) := by decide +kernel
theorem dX5_about_1 : decode cX5_about 1 = .ok (.invokestatic 68, 3) := by decide +kernel
theorem dX5_about_4 : decode cX5_about 4 = .ok (.ifCond .eq 12, 3) := by decide +kernel
theorem dX5_about_7 : decode cX5_about 7 = .ok (.iload_n 2, 1) := by decide +kernel
theorem dX5_about_8 : decode cX5_about 8 = .ok (.iconst 0, 1) := by decide +kernel
theorem dX5_about_9 : decode cX5_about 9 = .ok (.iconst 5, 1) := by decide +kernel
theorem dX5_about_10 : decode cX5_about 10 = .ok (.invokestatic 56, 3) := by decide +kernel
theorem dX5_about_13 : decode cX5_about 13 = .ok (.ifCond .ne 5, 3) := by decide +kernel
theorem dX5_about_16 : decode cX5_about 16 = .ok (.iconst (-1), 1) := by decide +kernel
theorem dX5_about_17 : decode cX5_about 17 = .ok (.ireturn, 1) := by decide +kernel
theorem dX5_about_18 : decode cX5_about 18 = .ok (.aload_n 0, 1) := by decide +kernel
theorem dX5_about_19 : decode cX5_about 19 = .ok (.getfield 31, 3) := by decide +kernel
theorem dX5_about_22 : decode cX5_about 22 = .ok (.iload_n 1, 1) := by decide +kernel
theorem dX5_about_23 : decode cX5_about 23 = .ok (.iaload, 1) := by decide +kernel
theorem dX5_about_24 : decode cX5_about 24 = .ok (.istore_n 3, 1) := by decide +kernel
theorem dX5_about_25 : decode cX5_about 25 = .ok (.iload_n 3, 1) := by decide +kernel
theorem dX5_about_26 : decode cX5_about 26 = .ok (.iconst (-1), 1) := by decide +kernel
theorem dX5_about_27 : decode cX5_about 27 = .ok (.if_icmp .ne 5, 3) := by decide +kernel
theorem dX5_about_30 : decode cX5_about 30 = .ok (.iconst 0, 1) := by decide +kernel
theorem dX5_about_31 : decode cX5_about 31 = .ok (.ireturn, 1) := by decide +kernel
theorem dX5_about_32 : decode cX5_about 32 = .ok (.aload_n 0, 1) := by decide +kernel
theorem dX5_about_33 : decode cX5_about 33 = .ok (.getfield 7, 3) := by decide +kernel
theorem dX5_about_36 : decode cX5_about 36 = .ok (.iload_n 3, 1) := by decide +kernel
theorem dX5_about_37 : decode cX5_about 37 = .ok (.iaload, 1) := by decide +kernel
theorem dX5_about_38 : decode cX5_about 38 = .ok (.iconst 3, 1) := by decide +kernel
theorem dX5_about_39 : decode cX5_about 39 = .ok (.if_icmp .eq 7, 3) := by decide +kernel
theorem dX5_about_42 : decode cX5_about 42 = .ok (.iconst 1, 1) := by decide +kernel
theorem dX5_about_43 : decode cX5_about 43 = .ok (.goto 4, 3) := by decide +kernel
theorem dX5_about_46 : decode cX5_about 46 = .ok (.iconst 0, 1) := by decide +kernel
theorem dX5_about_47 : decode cX5_about 47 = .ok (.istore 4, 2) := by decide +kernel
theorem dX5_about_49 : decode cX5_about 49 = .ok (.iload_n 2, 1) := by decide +kernel
theorem dX5_about_50 : decode cX5_about 50 = .ok (.tableswitch 102 0 4 #[34, 41, 48, 55, 62], 34) := by decide +kernel
theorem dX5_about_84 : decode cX5_about 84 = .ok (.aload_n 0, 1) := by decide +kernel
theorem dX5_about_85 : decode cX5_about 85 = .ok (.getfield 7, 3) := by decide +kernel
theorem dX5_about_88 : decode cX5_about 88 = .ok (.iload_n 3, 1) := by decide +kernel
theorem dX5_about_89 : decode cX5_about 89 = .ok (.iaload, 1) := by decide +kernel
theorem dX5_about_90 : decode cX5_about 90 = .ok (.ireturn, 1) := by decide +kernel
theorem dX5_about_91 : decode cX5_about 91 = .ok (.aload_n 0, 1) := by decide +kernel
theorem dX5_about_92 : decode cX5_about 92 = .ok (.getfield 13, 3) := by decide +kernel
theorem dX5_about_95 : decode cX5_about 95 = .ok (.iload_n 3, 1) := by decide +kernel
theorem dX5_about_96 : decode cX5_about 96 = .ok (.iaload, 1) := by decide +kernel
theorem dX5_about_97 : decode cX5_about 97 = .ok (.ireturn, 1) := by decide +kernel
theorem dX5_about_98 : decode cX5_about 98 = .ok (.aload_n 0, 1) := by decide +kernel
theorem dX5_about_99 : decode cX5_about 99 = .ok (.getfield 16, 3) := by decide +kernel
theorem dX5_about_102 : decode cX5_about 102 = .ok (.iload_n 3, 1) := by decide +kernel
theorem dX5_about_103 : decode cX5_about 103 = .ok (.iaload, 1) := by decide +kernel
theorem dX5_about_104 : decode cX5_about 104 = .ok (.ireturn, 1) := by decide +kernel
theorem dX5_about_105 : decode cX5_about 105 = .ok (.aload_n 0, 1) := by decide +kernel
theorem dX5_about_106 : decode cX5_about 106 = .ok (.getfield 25, 3) := by decide +kernel
theorem dX5_about_109 : decode cX5_about 109 = .ok (.iload_n 3, 1) := by decide +kernel
theorem dX5_about_110 : decode cX5_about 110 = .ok (.iaload, 1) := by decide +kernel
theorem dX5_about_111 : decode cX5_about 111 = .ok (.ireturn, 1) := by decide +kernel
theorem dX5_about_112 : decode cX5_about 112 = .ok (.iload 4, 2) := by decide +kernel
theorem dX5_about_114 : decode cX5_about 114 = .ok (.ifCond .ne 12, 3) := by decide +kernel
theorem dX5_about_117 : decode cX5_about 117 = .ok (.aload_n 0, 1) := by decide +kernel
theorem dX5_about_118 : decode cX5_about 118 = .ok (.getfield 28, 3) := by decide +kernel
theorem dX5_about_121 : decode cX5_about 121 = .ok (.iload_n 3, 1) := by decide +kernel
theorem dX5_about_122 : decode cX5_about 122 = .ok (.iaload, 1) := by decide +kernel
theorem dX5_about_123 : decode cX5_about 123 = .ok (.goto 28, 3) := by decide +kernel
theorem dX5_about_126 : decode cX5_about 126 = .ok (.aload_n 0, 1) := by decide +kernel
theorem dX5_about_127 : decode cX5_about 127 = .ok (.getfield 19, 3) := by decide +kernel
theorem dX5_about_130 : decode cX5_about 130 = .ok (.iload_n 3, 1) := by decide +kernel
theorem dX5_about_131 : decode cX5_about 131 = .ok (.iaload, 1) := by decide +kernel
theorem dX5_about_132 : decode cX5_about 132 = .ok (.iconst (-1), 1) := by decide +kernel
theorem dX5_about_133 : decode cX5_about 133 = .ok (.if_icmp .ne 7, 3) := by decide +kernel
theorem dX5_about_136 : decode cX5_about 136 = .ok (.iconst 0, 1) := by decide +kernel
theorem dX5_about_137 : decode cX5_about 137 = .ok (.goto 14, 3) := by decide +kernel
theorem dX5_about_140 : decode cX5_about 140 = .ok (.aload_n 0, 1) := by decide +kernel
theorem dX5_about_141 : decode cX5_about 141 = .ok (.getfield 28, 3) := by decide +kernel
theorem dX5_about_144 : decode cX5_about 144 = .ok (.aload_n 0, 1) := by decide +kernel
theorem dX5_about_145 : decode cX5_about 145 = .ok (.getfield 19, 3) := by decide +kernel
theorem dX5_about_148 : decode cX5_about 148 = .ok (.iload_n 3, 1) := by decide +kernel
theorem dX5_about_149 : decode cX5_about 149 = .ok (.iaload, 1) := by decide +kernel
theorem dX5_about_150 : decode cX5_about 150 = .ok (.iaload, 1) := by decide +kernel
theorem dX5_about_151 : decode cX5_about 151 = .ok (.ireturn, 1) := by decide +kernel
theorem dX5_about_152 : decode cX5_about 152 = .ok (.aload_n 0, 1) := by decide +kernel
theorem dX5_about_153 : decode cX5_about 153 = .ok (.getfield 22, 3) := by decide +kernel
theorem dX5_about_156 : decode cX5_about 156 = .ok (.iload_n 3, 1) := by decide +kernel
theorem dX5_about_157 : decode cX5_about 157 = .ok (.iaload, 1) := by decide +kernel
theorem dX5_about_158 : decode cX5_about 158 = .ok (.ireturn, 1) := by decide +kernel
set_option maxRecDepth 20000 in
theorem ggX5_reasons_X5_in : GoodIn wsX5_reasons wsX5_in := goodIn_r _ [5] (by decide +kernel) (by decide +kernel)
set_option maxRecDepth 20000 in
theorem gX5_reasons_X5_in : GoodIn wsX5_reasons (va_wsS RX5 56 yX5_in wsX5_in) := goodIn_app (goodIn_of _ (by decide +kernel)) ggX5_reasons_X5_in
theorem dX5_reasons_0 : decode cX5_reasons 0 = .ok (.iload_n 1, 1) := by decide +kernel
theorem dX5_reasons_1 : decode cX5_reasons 1 = .ok (.iconst 1, 1) := by decide +kernel
theorem dX5_reasons_2 : decode cX5_reasons 2 = .ok (.bipush 6, 2) := by decide +kernel
theorem dX5_reasons_4 : decode cX5_reasons 4 = .ok (.invokestatic 56, 3) := by decide +kernel
theorem dX5_reasons_7 : decode cX5_reasons 7 = .ok (.ifCond .eq 12, 3) := by decide +kernel
theorem dX5_reasons_10 : decode cX5_reasons 10 = .ok (.aload_n 0, 1) := by decide +kernel
theorem dX5_reasons_11 : decode cX5_reasons 11 = .ok (.getfield 53, 3) := by decide +kernel
theorem dX5_reasons_14 : decode cX5_reasons 14 = .ok (.iload_n 1, 1) := by decide +kernel
theorem dX5_reasons_15 : decode cX5_reasons 15 = .ok (.iaload, 1) := by decide +kernel
theorem dX5_reasons_16 : decode cX5_reasons 16 = .ok (.goto 4, 3) := by decide +kernel
theorem dX5_reasons_19 : decode cX5_reasons 19 = .ok (.iconst (-1), 1) := by decide +kernel
theorem dX5_reasons_20 : decode cX5_reasons 20 = .ok (.ireturn, 1) := by decide +kernel
