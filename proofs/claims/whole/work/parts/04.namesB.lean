theorem dX4_change_31 : decode cX4_change 31 = .ok (.ireturn, 1) := by decide +kernel
set_option maxRecDepth 20000 in
theorem ggX4_call_X4_isWithin : GoodIn wsX4_call wsX4_isWithin := goodIn_r _ [6] (by decide +kernel) (by decide +kernel)
set_option maxRecDepth 20000 in
theorem gX4_call_X4_isWithin : GoodIn wsX4_call (va_wsS RX4 55 yX4_isWithin wsX4_isWithin) := goodIn_app (goodIn_of _ (by decide +kernel)) ggX4_call_X4_isWithin
set_option maxRecDepth 20000 in
theorem ggX4_call_X4_tell : GoodIn wsX4_call wsX4_tell := goodIn_r _ [10, 11, 3, 4, 5, 6, 16, 17, 18, 19, 20, 21, 22, 23, 24, 25, 26] (by decide +kernel) (by decide +kernel)
set_option maxRecDepth 20000 in
theorem gX4_call_X4_tell : GoodIn wsX4_call (wsV RX4 67 RX4 yX4_tell wsX4_tell) := goodIn_app (goodIn_of _ (by decide +kernel)) ggX4_call_X4_tell
set_option maxRecDepth 20000 in
theorem ggX4_call_X4_isNumber : GoodIn wsX4_call wsX4_isNumber := goodIn_r _ [15, 1, 2, 16, 17, 18, 19, 20, 21, 22, 23, 24, 25, 26] (by decide +kernel) (by decide +kernel)
set_option maxRecDepth 20000 in
theorem gX4_call_X4_isNumber : GoodIn wsX4_call (wsV RX4 121 RX4 yX4_isNumber wsX4_isNumber) := goodIn_app (goodIn_of _ (by decide +kernel)) ggX4_call_X4_isNumber
theorem dX4_call_0 : decode cX4_call 0 = .ok (.iload_n 2, 1) := by decide +kernel
theorem dX4_call_1 : decode cX4_call 1 = .ok (.iconst 0, 1) := by decide +kernel
theorem dX4_call_2 : decode cX4_call 2 = .ok (.bipush 99, 2) := by decide +kernel
theorem dX4_call_4 : decode cX4_call 4 = .ok (.invokestatic 55, 3) := by decide +kernel
theorem dX4_call_7 : decode cX4_call 7 = .ok (.ifCond .ne 5, 3) := by decide +kernel
theorem dX4_call_10 : decode cX4_call 10 = .ok (.iconst (-1), 1) := by decide +kernel
theorem dX4_call_11 : decode cX4_call 11 = .ok (.ireturn, 1) := by decide +kernel
theorem dX4_call_12 : decode cX4_call 12 = .ok (.aload_n 0, 1) := by decide +kernel
theorem dX4_call_13 : decode cX4_call 13 = .ok (.getfield 33, 3) := by decide +kernel
theorem dX4_call_16 : decode cX4_call 16 = .ok (.iconst (-1), 1) := by decide +kernel
theorem dX4_call_17 : decode cX4_call 17 = .ok (.if_icmp .ne 9, 3) := by decide +kernel
theorem dX4_call_20 : decode cX4_call 20 = .ok (.aload_n 0, 1) := by decide +kernel
theorem dX4_call_21 : decode cX4_call 21 = .ok (.iconst 1, 1) := by decide +kernel
theorem dX4_call_22 : decode cX4_call 22 = .ok (.invokevirtual 67, 3) := by decide +kernel
theorem dX4_call_25 : decode cX4_call 25 = .ok (.ireturn, 1) := by decide +kernel
theorem dX4_call_26 : decode cX4_call 26 = .ok (.aload_n 0, 1) := by decide +kernel
theorem dX4_call_27 : decode cX4_call 27 = .ok (.iload_n 1, 1) := by decide +kernel
theorem dX4_call_28 : decode cX4_call 28 = .ok (.invokevirtual 121, 3) := by decide +kernel
theorem dX4_call_31 : decode cX4_call 31 = .ok (.ifCond .ne 9, 3) := by decide +kernel
theorem dX4_call_34 : decode cX4_call 34 = .ok (.aload_n 0, 1) := by decide +kernel
theorem dX4_call_35 : decode cX4_call 35 = .ok (.iconst 5, 1) := by decide +kernel
theorem dX4_call_36 : decode cX4_call 36 = .ok (.invokevirtual 67, 3) := by decide +kernel
theorem dX4_call_39 : decode cX4_call 39 = .ok (.ireturn, 1) := by decide +kernel
theorem dX4_call_40 : decode cX4_call 40 = .ok (.aload_n 0, 1) := by decide +kernel
theorem dX4_call_41 : decode cX4_call 41 = .ok (.getfield 29, 3) := by decide +kernel
theorem dX4_call_44 : decode cX4_call 44 = .ok (.iload_n 1, 1) := by decide +kernel
theorem dX4_call_45 : decode cX4_call 45 = .ok (.iload_n 2, 1) := by decide +kernel
theorem dX4_call_46 : decode cX4_call 46 = .ok (.iastore, 1) := by decide +kernel
theorem dX4_call_47 : decode cX4_call 47 = .ok (.iload_n 2, 1) := by decide +kernel
theorem dX4_call_48 : decode cX4_call 48 = .ok (.ireturn, 1) := by decide +kernel
set_option maxRecDepth 20000 in
theorem ggX4_strike_X4_tell : GoodIn wsX4_strike wsX4_tell := goodIn_r _ [9, 10, 11, 12, 8, 13, 51, 52, 53, 54, 55, 56, 57, 58, 59, 60, 61] (by decide +kernel) (by decide +kernel)
set_option maxRecDepth 20000 in
theorem gX4_strike_X4_tell : GoodIn wsX4_strike (wsV RX4 67 RX4 yX4_tell wsX4_tell) := goodIn_app (goodIn_of _ (by decide +kernel)) ggX4_strike_X4_tell
set_option maxRecDepth 20000 in
theorem ggX4_strike_X4_isNumber : GoodIn wsX4_strike wsX4_isNumber := goodIn_r _ [17, 1, 3, 51, 52, 53, 54, 55, 56, 57, 58, 59, 60, 61] (by decide +kernel) (by decide +kernel)
set_option maxRecDepth 20000 in
theorem gX4_strike_X4_isNumber : GoodIn wsX4_strike (wsV RX4 121 RX4 yX4_isNumber wsX4_isNumber) := goodIn_app (goodIn_of _ (by decide +kernel)) ggX4_strike_X4_isNumber
set_option maxRecDepth 20000 in
theorem ggX4_strike_X4_isPlace : GoodIn wsX4_strike wsX4_isPlace := goodIn_r _ [21, 2, 4, 51, 52, 53, 54, 55, 56, 57, 58, 59, 60, 61] (by decide +kernel) (by decide +kernel)
set_option maxRecDepth 20000 in
theorem gX4_strike_X4_isPlace : GoodIn wsX4_strike (wsV RX4 113 RX4 yX4_isPlace wsX4_isPlace) := goodIn_app (goodIn_of _ (by decide +kernel)) ggX4_strike_X4_isPlace
set_option maxRecDepth 20000 in
theorem ggX4_strike_X4_sound : GoodIn wsX4_strike wsX4_sound := goodIn_r _ [25, 26, 27, 28, 29, 30, 31, 32, 33, 34, 35, 8, 36, 37, 38, 5, 6, 7, 9, 10, 11, 12, 13, 39, 40, 41, 42, 43, 44, 45, 46, 47, 48, 49, 50, 62, 63, 64, 65, 66, 67, 68, 69, 70, 71, 72, 51, 52, 53, 54, 55, 56, 57, 58, 59, 60, 61] (by decide +kernel) (by decide +kernel)
set_option maxRecDepth 20000 in
theorem gX4_strike_X4_sound : GoodIn wsX4_strike (wsV RX4 81 RX4 yX4_sound wsX4_sound) := goodIn_app (goodIn_of _ (by decide +kernel)) ggX4_strike_X4_sound
theorem dX4_strike_0 : decode cX4_strike 0 = .ok (.aload_n 0, 1) := by decide +kernel
theorem dX4_strike_1 : decode cX4_strike 1 = .ok (.getfield 33, 3) := by decide +kernel
theorem dX4_strike_4 : decode cX4_strike 4 = .ok (.iconst (-1), 1) := by decide +kernel
theorem dX4_strike_5 : decode cX4_strike 5 = .ok (.if_icmp .ne 9, 3) := by decide +kernel
theorem dX4_strike_8 : decode cX4_strike 8 = .ok (.aload_n 0, 1) := by decide +kernel
theorem dX4_strike_9 : decode cX4_strike 9 = .ok (.iconst 1, 1) := by decide +kernel
theorem dX4_strike_10 : decode cX4_strike 10 = .ok (.invokevirtual 67, 3) := by decide +kernel
theorem dX4_strike_13 : decode cX4_strike 13 = .ok (.ireturn, 1) := by decide +kernel
theorem dX4_strike_14 : decode cX4_strike 14 = .ok (.aload_n 0, 1) := by decide +kernel
theorem dX4_strike_15 : decode cX4_strike 15 = .ok (.iload_n 1, 1) := by decide +kernel
theorem dX4_strike_16 : decode cX4_strike 16 = .ok (.invokevirtual 121, 3) := by decide +kernel
theorem dX4_strike_19 : decode cX4_strike 19 = .ok (.ifCond .ne 9, 3) := by decide +kernel
theorem dX4_strike_22 : decode cX4_strike 22 = .ok (.aload_n 0, 1) := by decide +kernel
theorem dX4_strike_23 : decode cX4_strike 23 = .ok (.iconst 5, 1) := by decide +kernel
theorem dX4_strike_24 : decode cX4_strike 24 = .ok (.invokevirtual 67, 3) := by decide +kernel
theorem dX4_strike_27 : decode cX4_strike 27 = .ok (.ireturn, 1) := by decide +kernel
theorem dX4_strike_28 : decode cX4_strike 28 = .ok (.aload_n 0, 1) := by decide +kernel
theorem dX4_strike_29 : decode cX4_strike 29 = .ok (.getfield 21, 3) := by decide +kernel
theorem dX4_strike_32 : decode cX4_strike 32 = .ok (.iconst (-1), 1) := by decide +kernel
theorem dX4_strike_33 : decode cX4_strike 33 = .ok (.if_icmp .ne 9, 3) := by decide +kernel
theorem dX4_strike_36 : decode cX4_strike 36 = .ok (.aload_n 0, 1) := by decide +kernel
theorem dX4_strike_37 : decode cX4_strike 37 = .ok (.iconst 1, 1) := by decide +kernel
theorem dX4_strike_38 : decode cX4_strike 38 = .ok (.invokevirtual 67, 3) := by decide +kernel
theorem dX4_strike_41 : decode cX4_strike 41 = .ok (.ireturn, 1) := by decide +kernel
theorem dX4_strike_42 : decode cX4_strike 42 = .ok (.aload_n 0, 1) := by decide +kernel
theorem dX4_strike_43 : decode cX4_strike 43 = .ok (.getfield 29, 3) := by decide +kernel
theorem dX4_strike_46 : decode cX4_strike 46 = .ok (.iload_n 1, 1) := by decide +kernel
theorem dX4_strike_47 : decode cX4_strike 47 = .ok (.iaload, 1) := by decide +kernel
theorem dX4_strike_48 : decode cX4_strike 48 = .ok (.istore_n 2, 1) := by decide +kernel
theorem dX4_strike_49 : decode cX4_strike 49 = .ok (.aload_n 0, 1) := by decide +kernel
theorem dX4_strike_50 : decode cX4_strike 50 = .ok (.iload_n 2, 1) := by decide +kernel
theorem dX4_strike_51 : decode cX4_strike 51 = .ok (.invokevirtual 113, 3) := by decide +kernel
theorem dX4_strike_54 : decode cX4_strike 54 = .ok (.ifCond .ne 9, 3) := by decide +kernel
theorem dX4_strike_57 : decode cX4_strike 57 = .ok (.aload_n 0, 1) := by decide +kernel
theorem dX4_strike_58 : decode cX4_strike 58 = .ok (.iconst 5, 1) := by decide +kernel
theorem dX4_strike_59 : decode cX4_strike 59 = .ok (.invokevirtual 67, 3) := by decide +kernel
theorem dX4_strike_62 : decode cX4_strike 62 = .ok (.ireturn, 1) := by decide +kernel
theorem dX4_strike_63 : decode cX4_strike 63 = .ok (.aload_n 0, 1) := by decide +kernel
theorem dX4_strike_64 : decode cX4_strike 64 = .ok (.getfield 17, 3) := by decide +kernel
theorem dX4_strike_67 : decode cX4_strike 67 = .ok (.iload_n 2, 1) := by decide +kernel
theorem dX4_strike_68 : decode cX4_strike 68 = .ok (.aaload, 1) := by decide +kernel
theorem dX4_strike_69 : decode cX4_strike 69 = .ok (.astore_n 3, 1) := by decide +kernel
theorem dX4_strike_70 : decode cX4_strike 70 = .ok (.aload_n 3, 1) := by decide +kernel
theorem dX4_strike_71 : decode cX4_strike 71 = .ok (.ifnonnull 11, 3) := by decide +kernel
theorem dX4_strike_74 : decode cX4_strike 74 = .ok (.aload_n 0, 1) := by decide +kernel
theorem dX4_strike_75 : decode cX4_strike 75 = .ok (.iconst 1, 1) := by decide +kernel
theorem dX4_strike_76 : decode cX4_strike 76 = .ok (.invokevirtual 67, 3) := by decide +kernel
theorem dX4_strike_79 : decode cX4_strike 79 = .ok (.goto 8, 3) := by decide +kernel
theorem dX4_strike_82 : decode cX4_strike 82 = .ok (.aload_n 0, 1) := by decide +kernel
theorem dX4_strike_83 : decode cX4_strike 83 = .ok (.aload_n 3, 1) := by decide +kernel
theorem dX4_strike_84 : decode cX4_strike 84 = .ok (.invokevirtual 81, 3) := by decide +kernel
theorem dX4_strike_87 : decode cX4_strike 87 = .ok (.ireturn, 1) := by decide +kernel
set_option maxRecDepth 20000 in
theorem ggX4_chime_X4_isWithin : GoodIn wsX4_chime wsX4_isWithin := goodIn_r _ [5] (by decide +kernel) (by decide +kernel)
set_option maxRecDepth 20000 in
theorem gX4_chime_X4_isWithin : GoodIn wsX4_chime (va_wsS RX4 55 yX4_isWithin wsX4_isWithin) := goodIn_app (goodIn_of _ (by decide +kernel)) ggX4_chime_X4_isWithin
set_option maxRecDepth 20000 in
theorem ggX4_chime_X4_tell : GoodIn wsX4_chime wsX4_tell := goodIn_r _ [9, 10, 2, 3, 4, 5, 55, 56, 57, 58, 59, 60, 61, 62, 63, 64, 65] (by decide +kernel) (by decide +kernel)
set_option maxRecDepth 20000 in
theorem gX4_chime_X4_tell : GoodIn wsX4_chime (wsV RX4 67 RX4 yX4_tell wsX4_tell) := goodIn_app (goodIn_of _ (by decide +kernel)) ggX4_chime_X4_tell
set_option maxRecDepth 20000 in
theorem ggX4_chime_X4_strike : GoodIn wsX4_chime wsX4_strike := goodIn_r _ [14, 1, 15, 16, 17, 6, 7, 8, 4, 9, 10, 2, 3, 5, 18, 19, 20, 21, 22, 23, 24, 25, 26, 27, 28, 29, 30, 31, 32, 33, 34, 35, 36, 37, 38, 39, 40, 41, 42, 43, 44, 45, 46, 47, 48, 49, 50, 51, 52, 53, 54, 55, 56, 57, 58, 59, 60, 61, 62, 63, 64, 65, 66, 67, 68, 69, 70, 71, 72, 73, 74, 75, 76] (by decide +kernel) (by decide +kernel)
set_option maxRecDepth 20000 in
theorem gX4_chime_X4_strike : GoodIn wsX4_chime (wsV RX4 124 RX4 yX4_strike wsX4_strike) := goodIn_app (goodIn_of _ (by decide +kernel)) ggX4_chime_X4_strike
theorem dX4_chime_0 : decode cX4_chime 0 = .ok (.iload_n 1, 1) := by decide +kernel
theorem dX4_chime_1 : decode cX4_chime 1 = .ok (.iconst 0, 1) := by decide +kernel
theorem dX4_chime_2 : decode cX4_chime 2 = .ok (.iconst 1, 1) := by decide +kernel
theorem dX4_chime_3 : decode cX4_chime 3 = .ok (.invokestatic 55, 3) := by decide +kernel
theorem dX4_chime_6 : decode cX4_chime 6 = .ok (.ifCond .ne 5, 3) := by decide +kernel
theorem dX4_chime_9 : decode cX4_chime 9 = .ok (.iconst (-1), 1) := by decide +kernel
theorem dX4_chime_10 : decode cX4_chime 10 = .ok (.ireturn, 1) := by decide +kernel
theorem dX4_chime_11 : decode cX4_chime 11 = .ok (.aload_n 0, 1) := by decide +kernel
theorem dX4_chime_12 : decode cX4_chime 12 = .ok (.getfield 33, 3) := by decide +kernel
theorem dX4_chime_15 : decode cX4_chime 15 = .ok (.iconst (-1), 1) := by decide +kernel
theorem dX4_chime_16 : decode cX4_chime 16 = .ok (.if_icmp .ne 9, 3) := by decide +kernel
theorem dX4_chime_19 : decode cX4_chime 19 = .ok (.aload_n 0, 1) := by decide +kernel
theorem dX4_chime_20 : decode cX4_chime 20 = .ok (.iconst 1, 1) := by decide +kernel
theorem dX4_chime_21 : decode cX4_chime 21 = .ok (.invokevirtual 67, 3) := by decide +kernel
theorem dX4_chime_24 : decode cX4_chime 24 = .ok (.ireturn, 1) := by decide +kernel
theorem dX4_chime_25 : decode cX4_chime 25 = .ok (.iconst 0, 1) := by decide +kernel
theorem dX4_chime_26 : decode cX4_chime 26 = .ok (.istore_n 2, 1) := by decide +kernel
theorem dX4_chime_27 : decode cX4_chime 27 = .ok (.iconst 0, 1) := by decide +kernel
theorem dX4_chime_28 : decode cX4_chime 28 = .ok (.istore_n 3, 1) := by decide +kernel
theorem dX4_chime_29 : decode cX4_chime 29 = .ok (.iload_n 3, 1) := by decide +kernel
theorem dX4_chime_30 : decode cX4_chime 30 = .ok (.aload_n 0, 1) := by decide +kernel
theorem dX4_chime_31 : decode cX4_chime 31 = .ok (.getfield 33, 3) := by decide +kernel
theorem dX4_chime_34 : decode cX4_chime 34 = .ok (.if_icmp .ge 35, 3) := by decide +kernel
theorem dX4_chime_37 : decode cX4_chime 37 = .ok (.aload_n 0, 1) := by decide +kernel
theorem dX4_chime_38 : decode cX4_chime 38 = .ok (.iload_n 3, 1) := by decide +kernel
theorem dX4_chime_39 : decode cX4_chime 39 = .ok (.invokevirtual 124, 3) := by decide +kernel
theorem dX4_chime_42 : decode cX4_chime 42 = .ok (.istore 4, 2) := by decide +kernel
theorem dX4_chime_44 : decode cX4_chime 44 = .ok (.iload 4, 2) := by decide +kernel
theorem dX4_chime_46 : decode cX4_chime 46 = .ok (.ifCond .lt 9, 3) := by decide +kernel
theorem dX4_chime_49 : decode cX4_chime 49 = .ok (.iinc 2 1, 3) := by decide +kernel
theorem dX4_chime_52 : decode cX4_chime 52 = .ok (.goto 11, 3) := by decide +kernel
theorem dX4_chime_55 : decode cX4_chime 55 = .ok (.iload_n 1, 1) := by decide +kernel
theorem dX4_chime_56 : decode cX4_chime 56 = .ok (.iconst 1, 1) := by decide +kernel
theorem dX4_chime_57 : decode cX4_chime 57 = .ok (.if_icmp .ne 6, 3) := by decide +kernel
theorem dX4_chime_60 : decode cX4_chime 60 = .ok (.iload 4, 2) := by decide +kernel
theorem dX4_chime_62 : decode cX4_chime 62 = .ok (.ireturn, 1) := by decide +kernel
theorem dX4_chime_63 : decode cX4_chime 63 = .ok (.iinc 3 1, 3) := by decide +kernel
theorem dX4_chime_66 : decode cX4_chime 66 = .ok (.goto (-37), 3) := by decide +kernel
theorem dX4_chime_69 : decode cX4_chime 69 = .ok (.iload_n 2, 1) := by decide +kernel
theorem dX4_chime_70 : decode cX4_chime 70 = .ok (.ireturn, 1) := by decide +kernel
set_option maxRecDepth 20000 in
theorem ggX4_peal_X4_tell : GoodIn wsX4_peal wsX4_tell := goodIn_r _ [8, 9, 10, 11, 7, 12, 16, 17, 18, 19, 20, 21, 22, 23, 24, 25, 26] (by decide +kernel) (by decide +kernel)
set_option maxRecDepth 20000 in
theorem gX4_peal_X4_tell : GoodIn wsX4_peal (wsV RX4 67 RX4 yX4_tell wsX4_tell) := goodIn_app (goodIn_of _ (by decide +kernel)) ggX4_peal_X4_tell
set_option maxRecDepth 20000 in
theorem ggX4_peal_X4_clearNumbers : GoodIn wsX4_peal wsX4_clearNumbers := goodIn_r _ [15] (by decide +kernel) (by decide +kernel)
set_option maxRecDepth 20000 in
theorem gX4_peal_X4_clearNumbers : GoodIn wsX4_peal (va_wsS RX4 117 yX4_clearNumbers wsX4_clearNumbers) := goodIn_app (goodIn_of _ (by decide +kernel)) ggX4_peal_X4_clearNumbers
theorem dX4_peal_0 : decode cX4_peal 0 = .ok (.iload_n 1, 1) := by decide +kernel
theorem dX4_peal_1 : decode cX4_peal 1 = .ok (.bipush 12, 2) := by decide +kernel
theorem dX4_peal_3 : decode cX4_peal 3 = .ok (.if_icmp .gt 9, 3) := by decide +kernel
theorem dX4_peal_6 : decode cX4_peal 6 = .ok (.iload_n 2, 1) := by decide +kernel
theorem dX4_peal_7 : decode cX4_peal 7 = .ok (.bipush 12, 2) := by decide +kernel
theorem dX4_peal_9 : decode cX4_peal 9 = .ok (.if_icmp .le 5, 3) := by decide +kernel
theorem dX4_peal_12 : decode cX4_peal 12 = .ok (.iconst (-1), 1) := by decide +kernel
theorem dX4_peal_13 : decode cX4_peal 13 = .ok (.ireturn, 1) := by decide +kernel
theorem dX4_peal_14 : decode cX4_peal 14 = .ok (.iload_n 1, 1) := by decide +kernel
theorem dX4_peal_15 : decode cX4_peal 15 = .ok (.ifCond .lt 7, 3) := by decide +kernel
theorem dX4_peal_18 : decode cX4_peal 18 = .ok (.iload_n 2, 1) := by decide +kernel
theorem dX4_peal_19 : decode cX4_peal 19 = .ok (.ifCond .ge 9, 3) := by decide +kernel
theorem dX4_peal_22 : decode cX4_peal 22 = .ok (.aload_n 0, 1) := by decide +kernel
theorem dX4_peal_23 : decode cX4_peal 23 = .ok (.iconst 4, 1) := by decide +kernel
theorem dX4_peal_24 : decode cX4_peal 24 = .ok (.invokevirtual 67, 3) := by decide +kernel
theorem dX4_peal_27 : decode cX4_peal 27 = .ok (.ireturn, 1) := by decide +kernel
theorem dX4_peal_28 : decode cX4_peal 28 = .ok (.aload_n 0, 1) := by decide +kernel
theorem dX4_peal_29 : decode cX4_peal 29 = .ok (.getfield 36, 3) := by decide +kernel
theorem dX4_peal_32 : decode cX4_peal 32 = .ok (.invokestatic 117, 3) := by decide +kernel
theorem dX4_peal_35 : decode cX4_peal 35 = .ok (.aload_n 0, 1) := by decide +kernel
theorem dX4_peal_36 : decode cX4_peal 36 = .ok (.iload_n 1, 1) := by decide +kernel
theorem dX4_peal_37 : decode cX4_peal 37 = .ok (.putfield 39, 3) := by decide +kernel
theorem dX4_peal_40 : decode cX4_peal 40 = .ok (.aload_n 0, 1) := by decide +kernel
theorem dX4_peal_41 : decode cX4_peal 41 = .ok (.iload_n 2, 1) := by decide +kernel
theorem dX4_peal_42 : decode cX4_peal 42 = .ok (.putfield 42, 3) := by decide +kernel
theorem dX4_peal_45 : decode cX4_peal 45 = .ok (.iload_n 1, 1) := by decide +kernel
theorem dX4_peal_46 : decode cX4_peal 46 = .ok (.iload_n 2, 1) := by decide +kernel
theorem dX4_peal_47 : decode cX4_peal 47 = .ok (.imul, 1) := by decide +kernel
theorem dX4_peal_48 : decode cX4_peal 48 = .ok (.ireturn, 1) := by decide +kernel
set_option maxRecDepth 20000 in
theorem ggX4_mark_X4_isWithin : GoodIn wsX4_mark wsX4_isWithin := goodIn_r _ [6] (by decide +kernel) (by decide +kernel)
set_option maxRecDepth 20000 in
theorem gX4_mark_X4_isWithin : GoodIn wsX4_mark (va_wsS RX4 55 yX4_isWithin wsX4_isWithin) := goodIn_app (goodIn_of _ (by decide +kernel)) ggX4_mark_X4_isWithin
set_option maxRecDepth 20000 in
theorem ggX4_mark_X4_tell : GoodIn wsX4_mark wsX4_tell := goodIn_r _ [10, 11, 3, 4, 5, 6, 17, 18, 19, 20, 21, 22, 23, 24, 25, 26, 27] (by decide +kernel) (by decide +kernel)
set_option maxRecDepth 20000 in
theorem gX4_mark_X4_tell : GoodIn wsX4_mark (wsV RX4 67 RX4 yX4_tell wsX4_tell) := goodIn_app (goodIn_of _ (by decide +kernel)) ggX4_mark_X4_tell
set_option maxRecDepth 20000 in
theorem ggX4_mark_X4_isMark : GoodIn wsX4_mark wsX4_isMark := goodIn_r _ [15, 1, 16, 17, 18, 19, 20, 21, 22, 23, 24, 25, 26, 27] (by decide +kernel) (by decide +kernel)
set_option maxRecDepth 20000 in
theorem gX4_mark_X4_isMark : GoodIn wsX4_mark (wsV RX4 127 RX4 yX4_isMark wsX4_isMark) := goodIn_app (goodIn_of _ (by decide +kernel)) ggX4_mark_X4_isMark
theorem dX4_mark_0 : decode cX4_mark 0 = .ok (.iload_n 3, 1) := by decide +kernel
theorem dX4_mark_1 : decode cX4_mark 1 = .ok (.iconst 0, 1) := by decide +kernel
theorem dX4_mark_2 : decode cX4_mark 2 = .ok (.bipush 99, 2) := by decide +kernel
theorem dX4_mark_4 : decode cX4_mark 4 = .ok (.invokestatic 55, 3) := by decide +kernel
theorem dX4_mark_7 : decode cX4_mark 7 = .ok (.ifCond .ne 5, 3) := by decide +kernel
theorem dX4_mark_10 : decode cX4_mark 10 = .ok (.iconst (-1), 1) := by decide +kernel
theorem dX4_mark_11 : decode cX4_mark 11 = .ok (.ireturn, 1) := by decide +kernel
theorem dX4_mark_12 : decode cX4_mark 12 = .ok (.aload_n 0, 1) := by decide +kernel
theorem dX4_mark_13 : decode cX4_mark 13 = .ok (.getfield 39, 3) := by decide +kernel
theorem dX4_mark_16 : decode cX4_mark 16 = .ok (.iconst (-1), 1) := by decide +kernel
theorem dX4_mark_17 : decode cX4_mark 17 = .ok (.if_icmp .ne 9, 3) := by decide +kernel
theorem dX4_mark_20 : decode cX4_mark 20 = .ok (.aload_n 0, 1) := by decide +kernel
theorem dX4_mark_21 : decode cX4_mark 21 = .ok (.iconst 1, 1) := by decide +kernel
theorem dX4_mark_22 : decode cX4_mark 22 = .ok (.invokevirtual 67, 3) := by decide +kernel
theorem dX4_mark_25 : decode cX4_mark 25 = .ok (.ireturn, 1) := by decide +kernel
theorem dX4_mark_26 : decode cX4_mark 26 = .ok (.aload_n 0, 1) := by decide +kernel
theorem dX4_mark_27 : decode cX4_mark 27 = .ok (.iload_n 1, 1) := by decide +kernel
theorem dX4_mark_28 : decode cX4_mark 28 = .ok (.iload_n 2, 1) := by decide +kernel
theorem dX4_mark_29 : decode cX4_mark 29 = .ok (.invokevirtual 127, 3) := by decide +kernel
theorem dX4_mark_32 : decode cX4_mark 32 = .ok (.ifCond .ne 9, 3) := by decide +kernel
theorem dX4_mark_35 : decode cX4_mark 35 = .ok (.aload_n 0, 1) := by decide +kernel
theorem dX4_mark_36 : decode cX4_mark 36 = .ok (.iconst 5, 1) := by decide +kernel
theorem dX4_mark_37 : decode cX4_mark 37 = .ok (.invokevirtual 67, 3) := by decide +kernel
theorem dX4_mark_40 : decode cX4_mark 40 = .ok (.ireturn, 1) := by decide +kernel
theorem dX4_mark_41 : decode cX4_mark 41 = .ok (.aload_n 0, 1) := by decide +kernel
theorem dX4_mark_42 : decode cX4_mark 42 = .ok (.getfield 36, 3) := by decide +kernel
theorem dX4_mark_45 : decode cX4_mark 45 = .ok (.iload_n 1, 1) := by decide +kernel
theorem dX4_mark_46 : decode cX4_mark 46 = .ok (.bipush 12, 2) := by decide +kernel
theorem dX4_mark_48 : decode cX4_mark 48 = .ok (.imul, 1) := by decide +kernel
theorem dX4_mark_49 : decode cX4_mark 49 = .ok (.iload_n 2, 1) := by decide +kernel
theorem dX4_mark_50 : decode cX4_mark 50 = .ok (.iadd, 1) := by decide +kernel
theorem dX4_mark_51 : decode cX4_mark 51 = .ok (.iload_n 3, 1) := by decide +kernel
theorem dX4_mark_52 : decode cX4_mark 52 = .ok (.iastore, 1) := by decide +kernel
theorem dX4_mark_53 : decode cX4_mark 53 = .ok (.iload_n 3, 1) := by decide +kernel
theorem dX4_mark_54 : decode cX4_mark 54 = .ok (.ireturn, 1) := by decide +kernel
set_option maxRecDepth 20000 in
theorem ggX4_marked_X4_tell : GoodIn wsX4_marked wsX4_tell := goodIn_r _ [7, 8, 9, 10, 6, 11, 17, 18, 19, 20, 21, 22, 23, 24, 25, 26, 27] (by decide +kernel) (by decide +kernel)
set_option maxRecDepth 20000 in
theorem gX4_marked_X4_tell : GoodIn wsX4_marked (wsV RX4 67 RX4 yX4_tell wsX4_tell) := goodIn_app (goodIn_of _ (by decide +kernel)) ggX4_marked_X4_tell
set_option maxRecDepth 20000 in
theorem ggX4_marked_X4_isMark : GoodIn wsX4_marked wsX4_isMark := goodIn_r _ [15, 1, 16, 17, 18, 19, 20, 21, 22, 23, 24, 25, 26, 27] (by decide +kernel) (by decide +kernel)
set_option maxRecDepth 20000 in
theorem gX4_marked_X4_isMark : GoodIn wsX4_marked (wsV RX4 127 RX4 yX4_isMark wsX4_isMark) := goodIn_app (goodIn_of _ (by decide +kernel)) ggX4_marked_X4_isMark
theorem dX4_marked_0 : decode cX4_marked 0 = .ok (.aload_n 0, 1) := by decide +kernel
theorem dX4_marked_1 : decode cX4_marked 1 = .ok (.getfield 39, 3) := by decide +kernel
theorem dX4_marked_4 : decode cX4_marked 4 = .ok (.iconst (-1), 1) := by decide +kernel
theorem dX4_marked_5 : decode cX4_marked 5 = .ok (.if_icmp .ne 9, 3) := by decide +kernel
theorem dX4_marked_8 : decode cX4_marked 8 = .ok (.aload_n 0, 1) := by decide +kernel
theorem dX4_marked_9 : decode cX4_marked 9 = .ok (.iconst 1, 1) := by decide +kernel
theorem dX4_marked_10 : decode cX4_marked 10 = .ok (.invokevirtual 67, 3) := by decide +kernel
theorem dX4_marked_13 : decode cX4_marked 13 = .ok (.ireturn, 1) := by decide +kernel
theorem dX4_marked_14 : decode cX4_marked 14 = .ok (.aload_n 0, 1) := by decide +kernel
theorem dX4_marked_15 : decode cX4_marked 15 = .ok (.iload_n 1, 1) := by decide +kernel
theorem dX4_marked_16 : decode cX4_marked 16 = .ok (.iload_n 2, 1) := by decide +kernel
theorem dX4_marked_17 : decode cX4_marked 17 = .ok (.invokevirtual 127, 3) := by decide +kernel
theorem dX4_marked_20 : decode cX4_marked 20 = .ok (.ifCond .ne 9, 3) := by decide +kernel
theorem dX4_marked_23 : decode cX4_marked 23 = .ok (.aload_n 0, 1) := by decide +kernel
theorem dX4_marked_24 : decode cX4_marked 24 = .ok (.iconst 5, 1) := by decide +kernel
theorem dX4_marked_25 : decode cX4_marked 25 = .ok (.invokevirtual 67, 3) := by decide +kernel
theorem dX4_marked_28 : decode cX4_marked 28 = .ok (.ireturn, 1) := by decide +kernel
theorem dX4_marked_29 : decode cX4_marked 29 = .ok (.aload_n 0, 1) := by decide +kernel
theorem dX4_marked_30 : decode cX4_marked 30 = .ok (.getfield 36, 3) := by decide +kernel
theorem dX4_marked_33 : decode cX4_marked 33 = .ok (.iload_n 1, 1) := by decide +kernel
theorem dX4_marked_34 : decode cX4_marked 34 = .ok (.bipush 12, 2) := by decide +kernel
theorem dX4_marked_36 : decode cX4_marked 36 = .ok (.imul, 1) := by decide +kernel
theorem dX4_marked_37 : decode cX4_marked 37 = .ok (.iload_n 2, 1) := by decide +kernel
theorem dX4_marked_38 : decode cX4_marked 38 = .ok (.iadd, 1) := by decide +kernel
theorem dX4_marked_39 : decode cX4_marked 39 = .ok (.iaload, 1) := by decide +kernel
theorem dX4_marked_40 : decode cX4_marked 40 = .ok (.ireturn, 1) := by decide +kernel
theorem dX4_away_0 : decode cX4_away 0 = .ok (.iload_n 1, 1) := by decide +kernel
theorem dX4_away_1 : decode cX4_away 1 = .ok (.tableswitch 66 0 2 #[27, 40, 53], 27) := by decide +kernel
theorem dX4_away_28 : decode cX4_away 28 = .ok (.aload_n 0, 1) := by decide +kernel
theorem dX4_away_29 : decode cX4_away 29 = .ok (.getfield 21, 3) := by decide +kernel
theorem dX4_away_32 : decode cX4_away 32 = .ok (.istore_n 2, 1) := by decide +kernel
theorem dX4_away_33 : decode cX4_away 33 = .ok (.aload_n 0, 1) := by decide +kernel
theorem dX4_away_34 : decode cX4_away 34 = .ok (.iconst (-1), 1) := by decide +kernel
theorem dX4_away_35 : decode cX4_away 35 = .ok (.putfield 21, 3) := by decide +kernel
theorem dX4_away_38 : decode cX4_away 38 = .ok (.goto 31, 3) := by decide +kernel
theorem dX4_away_41 : decode cX4_away 41 = .ok (.aload_n 0, 1) := by decide +kernel
theorem dX4_away_42 : decode cX4_away 42 = .ok (.getfield 33, 3) := by decide +kernel
theorem dX4_away_45 : decode cX4_away 45 = .ok (.istore_n 2, 1) := by decide +kernel
theorem dX4_away_46 : decode cX4_away 46 = .ok (.aload_n 0, 1) := by decide +kernel
theorem dX4_away_47 : decode cX4_away 47 = .ok (.iconst (-1), 1) := by decide +kernel
theorem dX4_away_48 : decode cX4_away 48 = .ok (.putfield 33, 3) := by decide +kernel
theorem dX4_away_51 : decode cX4_away 51 = .ok (.goto 18, 3) := by decide +kernel
theorem dX4_away_54 : decode cX4_away 54 = .ok (.aload_n 0, 1) := by decide +kernel
theorem dX4_away_55 : decode cX4_away 55 = .ok (.getfield 39, 3) := by decide +kernel
theorem dX4_away_58 : decode cX4_away 58 = .ok (.istore_n 2, 1) := by decide +kernel
theorem dX4_away_59 : decode cX4_away 59 = .ok (.aload_n 0, 1) := by decide +kernel
theorem dX4_away_60 : decode cX4_away 60 = .ok (.iconst (-1), 1) := by decide +kernel
theorem dX4_away_61 : decode cX4_away 61 = .ok (.putfield 39, 3) := by decide +kernel
theorem dX4_away_64 : decode cX4_away 64 = .ok (.goto 5, 3) := by decide +kernel
theorem dX4_away_67 : decode cX4_away 67 = .ok (.iconst (-1), 1) := by decide +kernel
theorem dX4_away_68 : decode cX4_away 68 = .ok (.ireturn, 1) := by decide +kernel
theorem dX4_away_69 : decode cX4_away 69 = .ok (.iload_n 2, 1) := by decide +kernel
theorem dX4_away_70 : decode cX4_away 70 = .ok (.iconst (-1), 1) := by decide +kernel
theorem dX4_away_71 : decode cX4_away 71 = .ok (.if_icmp .ne 7, 3) := by decide +kernel
theorem dX4_away_74 : decode cX4_away 74 = .ok (.iconst 0, 1) := by decide +kernel
theorem dX4_away_75 : decode cX4_away 75 = .ok (.goto 4, 3) := by decide +kernel
theorem dX4_away_78 : decode cX4_away 78 = .ok (.iconst 1, 1) := by decide +kernel
theorem dX4_away_79 : decode cX4_away 79 = .ok (.ireturn, 1) := by decide +kernel
set_option maxRecDepth 20000 in
theorem ggX4_about_X4_isHook : GoodIn wsX4_about wsX4_isHook := goodIn_r _ [6, 7, 8, 5, 9] (by decide +kernel) (by decide +kernel)
set_option maxRecDepth 20000 in
theorem gX4_about_X4_isHook : GoodIn wsX4_about (va_wsS RX4 51 yX4_isHook wsX4_isHook) := goodIn_app (goodIn_of _ (by decide +kernel)) ggX4_about_X4_isHook
set_option maxRecDepth 20000 in
theorem ggX4_about_X4_isWithin : GoodIn wsX4_about wsX4_isWithin := goodIn_r _ [9] (by decide +kernel) (by decide +kernel)
set_option maxRecDepth 20000 in
theorem gX4_about_X4_isWithin : GoodIn wsX4_about (va_wsS RX4 55 yX4_isWithin wsX4_isWithin) := goodIn_app (goodIn_of _ (by decide +kernel)) ggX4_about_X4_isWithin
set_option maxRecDepth 20000 in
theorem ggX4_about_X0_sortNumber : GoodIn wsX4_about wsX0_sortNumber := goodIn_r _ [15] (by decide +kernel) (by decide +kernel)
set_option maxRecDepth 20000 in
theorem gX4_about_X0_sortNumber_u131X0 : GoodIn wsX4_about (va_wsU RX4 131 RX0 "BellLoft$Thing" ⟨"BellLoft$Thing", "sortNumber", "()I"⟩ yX0_sortNumber wsX0_sortNumber) := goodIn_app (goodIn_of _ (by decide +kernel)) ggX4_about_X0_sortNumber
set_option maxRecDepth 20000 in
theorem ggX4_about_X1_sortNumber : GoodIn wsX4_about wsX1_sortNumber := goodIn_r _ [19] (by decide +kernel) (by decide +kernel)
set_option maxRecDepth 20000 in
theorem gX4_about_X1_sortNumber_u131X1 : GoodIn wsX4_about (va_wsU RX4 131 RX1 "BellLoft$Thing" ⟨"BellLoft$Thing", "sortNumber", "()I"⟩ yX1_sortNumber wsX1_sortNumber) := goodIn_app (goodIn_of _ (by decide +kernel)) ggX4_about_X1_sortNumber
set_option maxRecDepth 20000 in
theorem ggX4_about_X2_sortNumber : GoodIn wsX4_about wsX2_sortNumber := goodIn_r _ [23] (by decide +kernel) (by decide +kernel)
set_option maxRecDepth 20000 in
theorem gX4_about_X2_sortNumber_u131X2 : GoodIn wsX4_about (va_wsU RX4 131 RX2 "BellLoft$Thing" ⟨"BellLoft$Thing", "sortNumber", "()I"⟩ yX2_sortNumber wsX2_sortNumber) := goodIn_app (goodIn_of _ (by decide +kernel)) ggX4_about_X2_sortNumber
set_option maxRecDepth 20000 in
theorem ggX4_about_X0_strokesSoFar : GoodIn wsX4_about wsX0_strokesSoFar := goodIn_r _ [29, 30, 81, 82, 83, 84, 87, 88, 89, 90, 91] (by decide +kernel) (by decide +kernel)
set_option maxRecDepth 20000 in
theorem gX4_about_X0_strokesSoFar_u135X0 : GoodIn wsX4_about (va_wsO RX4 135 RX0 "BellLoft$Thing" ⟨"BellLoft$Thing", "strokesSoFar", "()I"⟩ yX0_strokesSoFar wsX0_strokesSoFar) := goodIn_app (goodIn_of _ (by decide +kernel)) ggX4_about_X0_strokesSoFar
set_option maxRecDepth 20000 in
theorem ggX4_about_X3_strokesSoFar : GoodIn wsX4_about wsX3_strokesSoFar := goodIn_r _ [31] (by decide +kernel) (by decide +kernel)
set_option maxRecDepth 20000 in
theorem gX4_about_X3_strokesSoFar_u135X1 : GoodIn wsX4_about (va_wsU RX4 135 RX1 "BellLoft$Thing" ⟨"BellLoft$Thing", "strokesSoFar", "()I"⟩ yX3_strokesSoFar wsX3_strokesSoFar) := goodIn_app (goodIn_of _ (by decide +kernel)) ggX4_about_X3_strokesSoFar
set_option maxRecDepth 20000 in
theorem gX4_about_X0_strokesSoFar_u135X2 : GoodIn wsX4_about (va_wsO RX4 135 RX2 "BellLoft$Thing" ⟨"BellLoft$Thing", "strokesSoFar", "()I"⟩ yX0_strokesSoFar wsX0_strokesSoFar) := goodIn_app (goodIn_of _ (by decide +kernel)) ggX4_about_X0_strokesSoFar
set_option maxRecDepth 20000 in
theorem ggX4_about_X3_humOrNone : GoodIn wsX4_about wsX3_humOrNone := goodIn_r _ [40] (by decide +kernel) (by decide +kernel)
set_option maxRecDepth 20000 in
theorem gX4_about_X3_humOrNone_u138X0 : GoodIn wsX4_about (va_wsU RX4 138 RX0 "BellLoft$Thing" ⟨"BellLoft$Thing", "humOrNone", "()I"⟩ yX3_humOrNone wsX3_humOrNone) := goodIn_app (goodIn_of _ (by decide +kernel)) ggX4_about_X3_humOrNone
set_option maxRecDepth 20000 in
theorem gX4_about_X3_humOrNone_u138X1 : GoodIn wsX4_about (va_wsU RX4 138 RX1 "BellLoft$Thing" ⟨"BellLoft$Thing", "humOrNone", "()I"⟩ yX3_humOrNone wsX3_humOrNone) := goodIn_app (goodIn_of _ (by decide +kernel)) ggX4_about_X3_humOrNone
set_option maxRecDepth 20000 in
theorem ggX4_about_X2_humOrNone : GoodIn wsX4_about wsX2_humOrNone := goodIn_r _ [45, 46, 87, 88, 89, 90, 91] (by decide +kernel) (by decide +kernel)
set_option maxRecDepth 20000 in
theorem gX4_about_X2_humOrNone_u138X2 : GoodIn wsX4_about (va_wsO RX4 138 RX2 "BellLoft$Thing" ⟨"BellLoft$Thing", "humOrNone", "()I"⟩ yX2_humOrNone wsX2_humOrNone) := goodIn_app (goodIn_of _ (by decide +kernel)) ggX4_about_X2_humOrNone
set_option maxRecDepth 20000 in
theorem ggX4_about_X0_wearSoFar : GoodIn wsX4_about wsX0_wearSoFar := goodIn_r _ [51, 52, 53, 81, 82, 83, 84, 87, 88, 89, 90, 91, 85, 86] (by decide +kernel) (by decide +kernel)
set_option maxRecDepth 20000 in
theorem gX4_about_X0_wearSoFar_u141X0 : GoodIn wsX4_about (va_wsU RX4 141 RX0 "BellLoft$Thing" ⟨"BellLoft$Thing", "wearSoFar", "()I"⟩ yX0_wearSoFar wsX0_wearSoFar) := goodIn_app (goodIn_of _ (by decide +kernel)) ggX4_about_X0_wearSoFar
set_option maxRecDepth 20000 in
theorem ggX4_about_X1_wearSoFar : GoodIn wsX4_about wsX1_wearSoFar := goodIn_r _ [56, 57, 85, 86] (by decide +kernel) (by decide +kernel)
set_option maxRecDepth 20000 in
theorem gX4_about_X1_wearSoFar_u141X1 : GoodIn wsX4_about (va_wsU RX4 141 RX1 "BellLoft$Thing" ⟨"BellLoft$Thing", "wearSoFar", "()I"⟩ yX1_wearSoFar wsX1_wearSoFar) := goodIn_app (goodIn_of _ (by decide +kernel)) ggX4_about_X1_wearSoFar
set_option maxRecDepth 20000 in
theorem gX4_about_X0_wearSoFar_u141X2 : GoodIn wsX4_about (va_wsU RX4 141 RX2 "BellLoft$Thing" ⟨"BellLoft$Thing", "wearSoFar", "()I"⟩ yX0_wearSoFar wsX0_wearSoFar) := goodIn_app (goodIn_of _ (by decide +kernel)) ggX4_about_X0_wearSoFar
set_option maxRecDepth 20000 in
theorem ggX4_about_X0_alarmOrNone : GoodIn wsX4_about wsX0_alarmOrNone := goodIn_r _ [64, 65, 81, 82, 83, 84, 87, 88, 89, 90, 91] (by decide +kernel) (by decide +kernel)
set_option maxRecDepth 20000 in
theorem gX4_about_X0_alarmOrNone_u144X0 : GoodIn wsX4_about (va_wsO RX4 144 RX0 "BellLoft$Thing" ⟨"BellLoft$Thing", "alarmOrNone", "()I"⟩ yX0_alarmOrNone wsX0_alarmOrNone) := goodIn_app (goodIn_of _ (by decide +kernel)) ggX4_about_X0_alarmOrNone
set_option maxRecDepth 20000 in
theorem ggX4_about_X3_alarmOrNone : GoodIn wsX4_about wsX3_alarmOrNone := goodIn_r _ [66] (by decide +kernel) (by decide +kernel)
set_option maxRecDepth 20000 in
theorem gX4_about_X3_alarmOrNone_u144X1 : GoodIn wsX4_about (va_wsU RX4 144 RX1 "BellLoft$Thing" ⟨"BellLoft$Thing", "alarmOrNone", "()I"⟩ yX3_alarmOrNone wsX3_alarmOrNone) := goodIn_app (goodIn_of _ (by decide +kernel)) ggX4_about_X3_alarmOrNone
set_option maxRecDepth 20000 in
theorem gX4_about_X0_alarmOrNone_u144X2 : GoodIn wsX4_about (va_wsO RX4 144 RX2 "BellLoft$Thing" ⟨"BellLoft$Thing", "alarmOrNone", "()I"⟩ yX0_alarmOrNone wsX0_alarmOrNone) := goodIn_app (goodIn_of _ (by decide +kernel)) ggX4_about_X0_alarmOrNone
theorem dX4_about_0 : decode cX4_about 0 = .ok (.iload_n 1, 1) := by decide +kernel
theorem dX4_about_1 : decode cX4_about 1 = .ok (.invokestatic 51, 3) := by decide +kernel
theorem dX4_about_4 : decode cX4_about 4 = .ok (.ifCond .eq 12, 3) := by decide +kernel
theorem dX4_about_7 : decode cX4_about 7 = .ok (.iload_n 2, 1) := by decide +kernel
theorem dX4_about_8 : decode cX4_about 8 = .ok (.iconst 0, 1) := by decide +kernel
theorem dX4_about_9 : decode cX4_about 9 = .ok (.iconst 5, 1) := by decide +kernel
theorem dX4_about_10 : decode cX4_about 10 = .ok (.invokestatic 55, 3) := by decide +kernel
theorem dX4_about_13 : decode cX4_about 13 = .ok (.ifCond .ne 5, 3) := by decide +kernel
theorem dX4_about_16 : decode cX4_about 16 = .ok (.iconst (-1), 1) := by decide +kernel
theorem dX4_about_17 : decode cX4_about 17 = .ok (.ireturn, 1) := by decide +kernel
theorem dX4_about_18 : decode cX4_about 18 = .ok (.aload_n 0, 1) := by decide +kernel
theorem dX4_about_19 : decode cX4_about 19 = .ok (.getfield 11, 3) := by decide +kernel
theorem dX4_about_22 : decode cX4_about 22 = .ok (.iload_n 1, 1) := by decide +kernel
theorem dX4_about_23 : decode cX4_about 23 = .ok (.aaload, 1) := by decide +kernel
theorem dX4_about_24 : decode cX4_about 24 = .ok (.astore_n 3, 1) := by decide +kernel
theorem dX4_about_25 : decode cX4_about 25 = .ok (.aload_n 3, 1) := by decide +kernel
theorem dX4_about_26 : decode cX4_about 26 = .ok (.ifnonnull 5, 3) := by decide +kernel
theorem dX4_about_29 : decode cX4_about 29 = .ok (.iconst 0, 1) := by decide +kernel
theorem dX4_about_30 : decode cX4_about 30 = .ok (.ireturn, 1) := by decide +kernel
theorem dX4_about_31 : decode cX4_about 31 = .ok (.iload_n 2, 1) := by decide +kernel
theorem dX4_about_32 : decode cX4_about 32 = .ok (.tableswitch 61 0 4 #[36, 41, 46, 51, 56], 36) := by decide +kernel
theorem dX4_about_68 : decode cX4_about 68 = .ok (.aload_n 3, 1) := by decide +kernel
theorem dX4_about_69 : decode cX4_about 69 = .ok (.invokevirtual 131, 3) := by decide +kernel
theorem dX4_about_72 : decode cX4_about 72 = .ok (.ireturn, 1) := by decide +kernel
theorem dX4_about_73 : decode cX4_about 73 = .ok (.aload_n 3, 1) := by decide +kernel
theorem dX4_about_74 : decode cX4_about 74 = .ok (.getfield 71, 3) := by decide +kernel
theorem dX4_about_77 : decode cX4_about 77 = .ok (.ireturn, 1) := by decide +kernel
theorem dX4_about_78 : decode cX4_about 78 = .ok (.aload_n 3, 1) := by decide +kernel
theorem dX4_about_79 : decode cX4_about 79 = .ok (.invokevirtual 135, 3) := by decide +kernel
theorem dX4_about_82 : decode cX4_about 82 = .ok (.ireturn, 1) := by decide +kernel
theorem dX4_about_83 : decode cX4_about 83 = .ok (.aload_n 3, 1) := by decide +kernel
theorem dX4_about_84 : decode cX4_about 84 = .ok (.invokevirtual 138, 3) := by decide +kernel
theorem dX4_about_87 : decode cX4_about 87 = .ok (.ireturn, 1) := by decide +kernel
theorem dX4_about_88 : decode cX4_about 88 = .ok (.aload_n 3, 1) := by decide +kernel
theorem dX4_about_89 : decode cX4_about 89 = .ok (.invokevirtual 141, 3) := by decide +kernel
theorem dX4_about_92 : decode cX4_about 92 = .ok (.ireturn, 1) := by decide +kernel
theorem dX4_about_93 : decode cX4_about 93 = .ok (.aload_n 3, 1) := by decide +kernel
theorem dX4_about_94 : decode cX4_about 94 = .ok (.invokevirtual 144, 3) := by decide +kernel
theorem dX4_about_97 : decode cX4_about 97 = .ok (.ireturn, 1) := by decide +kernel
set_option maxRecDepth 20000 in
theorem ggX4_reasons_X4_isWithin : GoodIn wsX4_reasons wsX4_isWithin := goodIn_r _ [5] (by decide +kernel) (by decide +kernel)
set_option maxRecDepth 20000 in
theorem gX4_reasons_X4_isWithin : GoodIn wsX4_reasons (va_wsS RX4 55 yX4_isWithin wsX4_isWithin) := goodIn_app (goodIn_of _ (by decide +kernel)) ggX4_reasons_X4_isWithin
theorem dX4_reasons_0 : decode cX4_reasons 0 = .ok (.iload_n 1, 1) := by decide +kernel
theorem dX4_reasons_1 : decode cX4_reasons 1 = .ok (.iconst 1, 1) := by decide +kernel
theorem dX4_reasons_2 : decode cX4_reasons 2 = .ok (.bipush 6, 2) := by decide +kernel
theorem dX4_reasons_4 : decode cX4_reasons 4 = .ok (.invokestatic 55, 3) := by decide +kernel
theorem dX4_reasons_7 : decode cX4_reasons 7 = .ok (.ifCond .eq 12, 3) := by decide +kernel
theorem dX4_reasons_10 : decode cX4_reasons 10 = .ok (.aload_n 0, 1) := by decide +kernel
theorem dX4_reasons_11 : decode cX4_reasons 11 = .ok (.getfield 45, 3) := by decide +kernel
theorem dX4_reasons_14 : decode cX4_reasons 14 = .ok (.iload_n 1, 1) := by decide +kernel
theorem dX4_reasons_15 : decode cX4_reasons 15 = .ok (.iaload, 1) := by decide +kernel
theorem dX4_reasons_16 : decode cX4_reasons 16 = .ok (.goto 4, 3) := by decide +kernel
theorem dX4_reasons_19 : decode cX4_reasons 19 = .ok (.iconst (-1), 1) := by decide +kernel
theorem dX4_reasons_20 : decode cX4_reasons 20 = .ok (.ireturn, 1) := by decide +kernel
set_option maxRecDepth 20000 in
theorem ggX4_sound_X4_goOff : GoodIn wsX4_sound wsX4_goOff := goodIn_r _ [12, 13, 14, 15, 16, 17, 11, 18, 19, 20, 21, 22, 35, 36, 37, 38, 39, 40, 41, 42, 43, 46, 47, 48, 49, 50, 51, 52, 53, 54, 55, 56] (by decide +kernel) (by decide +kernel)
set_option maxRecDepth 20000 in
theorem gX4_sound_X4_goOff : GoodIn wsX4_sound (wsV RX4 107 RX4 yX4_goOff wsX4_goOff) := goodIn_app (goodIn_of _ (by decide +kernel)) ggX4_sound_X4_goOff
set_option maxRecDepth 20000 in
theorem ggX4_sound_X4_tell : GoodIn wsX4_sound wsX4_tell := goodIn_r _ [18, 19, 20, 21, 11, 22, 46, 47, 48, 49, 50, 51, 52, 53, 54, 55, 56] (by decide +kernel) (by decide +kernel)
set_option maxRecDepth 20000 in
theorem gX4_sound_X4_tell : GoodIn wsX4_sound (wsV RX4 67 RX4 yX4_tell wsX4_tell) := goodIn_app (goodIn_of _ (by decide +kernel)) ggX4_sound_X4_tell
set_option maxRecDepth 20000 in
theorem ggX4_sound_X3_humOrNone : GoodIn wsX4_sound wsX3_humOrNone := goodIn_r _ [28] (by decide +kernel) (by decide +kernel)
set_option maxRecDepth 20000 in
theorem gX4_sound_X3_humOrNone_u154X0 : GoodIn wsX4_sound (va_wsU RX4 154 RX0 "BellLoft$Thing" ⟨"BellLoft$Bell", "humOrNone", "()I"⟩ yX3_humOrNone wsX3_humOrNone) := goodIn_app (goodIn_of _ (by decide +kernel)) ggX4_sound_X3_humOrNone
set_option maxRecDepth 20000 in
theorem ggX4_sound_X2_humOrNone : GoodIn wsX4_sound wsX2_humOrNone := goodIn_r _ [33, 34, 39, 40, 41, 42, 43] (by decide +kernel) (by decide +kernel)
set_option maxRecDepth 20000 in
theorem gX4_sound_X2_humOrNone_u154X2 : GoodIn wsX4_sound (va_wsO RX4 154 RX2 "BellLoft$Thing" ⟨"BellLoft$Bell", "humOrNone", "()I"⟩ yX2_humOrNone wsX2_humOrNone) := goodIn_app (goodIn_of _ (by decide +kernel)) ggX4_sound_X2_humOrNone
theorem dX4_sound_0 : decode cX4_sound 0 = .ok (.aload_n 1, 1) := by decide +kernel
theorem dX4_sound_1 : decode cX4_sound 1 = .ok (.dup, 1) := by decide +kernel
theorem dX4_sound_2 : decode cX4_sound 2 = .ok (.getfield 147, 3) := by decide +kernel
theorem dX4_sound_5 : decode cX4_sound 5 = .ok (.iconst 1, 1) := by decide +kernel
theorem dX4_sound_6 : decode cX4_sound 6 = .ok (.iadd, 1) := by decide +kernel
theorem dX4_sound_7 : decode cX4_sound 7 = .ok (.putfield 147, 3) := by decide +kernel
theorem dX4_sound_10 : decode cX4_sound 10 = .ok (.aload_n 1, 1) := by decide +kernel
theorem dX4_sound_11 : decode cX4_sound 11 = .ok (.getfield 147, 3) := by decide +kernel
theorem dX4_sound_14 : decode cX4_sound 14 = .ok (.iconst 5, 1) := by decide +kernel
theorem dX4_sound_15 : decode cX4_sound 15 = .ok (.if_icmp .le 9, 3) := by decide +kernel
theorem dX4_sound_18 : decode cX4_sound 18 = .ok (.aload_n 0, 1) := by decide +kernel
theorem dX4_sound_19 : decode cX4_sound 19 = .ok (.aload_n 1, 1) := by decide +kernel
theorem dX4_sound_20 : decode cX4_sound 20 = .ok (.invokevirtual 107, 3) := by decide +kernel
theorem dX4_sound_23 : decode cX4_sound 23 = .ok (.ireturn, 1) := by decide +kernel
theorem dX4_sound_24 : decode cX4_sound 24 = .ok (.aload_n 1, 1) := by decide +kernel
theorem dX4_sound_25 : decode cX4_sound 25 = .ok (.getfield 100, 3) := by decide +kernel
theorem dX4_sound_28 : decode cX4_sound 28 = .ok (.astore_n 2, 1) := by decide +kernel
theorem dX4_sound_29 : decode cX4_sound 29 = .ok (.aload_n 2, 1) := by decide +kernel
theorem dX4_sound_30 : decode cX4_sound 30 = .ok (.ifnonnull 9, 3) := by decide +kernel
theorem dX4_sound_33 : decode cX4_sound 33 = .ok (.aload_n 0, 1) := by decide +kernel
theorem dX4_sound_34 : decode cX4_sound 34 = .ok (.iconst 1, 1) := by decide +kernel
theorem dX4_sound_35 : decode cX4_sound 35 = .ok (.invokevirtual 67, 3) := by decide +kernel
theorem dX4_sound_38 : decode cX4_sound 38 = .ok (.ireturn, 1) := by decide +kernel
theorem dX4_sound_39 : decode cX4_sound 39 = .ok (.aload_n 2, 1) := by decide +kernel
theorem dX4_sound_40 : decode cX4_sound 40 = .ok (.dup, 1) := by decide +kernel
theorem dX4_sound_41 : decode cX4_sound 41 = .ok (.getfield 150, 3) := by decide +kernel
theorem dX4_sound_44 : decode cX4_sound 44 = .ok (.iconst 1, 1) := by decide +kernel
theorem dX4_sound_45 : decode cX4_sound 45 = .ok (.iadd, 1) := by decide +kernel
theorem dX4_sound_46 : decode cX4_sound 46 = .ok (.putfield 150, 3) := by decide +kernel
theorem dX4_sound_49 : decode cX4_sound 49 = .ok (.aload_n 1, 1) := by decide +kernel
theorem dX4_sound_50 : decode cX4_sound 50 = .ok (.getfield 116, 3) := by decide +kernel
theorem dX4_sound_53 : decode cX4_sound 53 = .ok (.aload_n 2, 1) := by decide +kernel
theorem dX4_sound_54 : decode cX4_sound 54 = .ok (.getfield 153, 3) := by decide +kernel
theorem dX4_sound_57 : decode cX4_sound 57 = .ok (.iadd, 1) := by decide +kernel
theorem dX4_sound_58 : decode cX4_sound 58 = .ok (.aload_n 1, 1) := by decide +kernel
theorem dX4_sound_59 : decode cX4_sound 59 = .ok (.invokevirtual 154, 3) := by decide +kernel
theorem dX4_sound_62 : decode cX4_sound 62 = .ok (.iadd, 1) := by decide +kernel
theorem dX4_sound_63 : decode cX4_sound 63 = .ok (.ireturn, 1) := by decide +kernel
set_option maxRecDepth 20000 in
theorem ggX4_goOff_X4_tell : GoodIn wsX4_goOff wsX4_tell := goodIn_r _ [7, 8, 9, 10, 6, 11, 21, 22, 23, 24, 25, 26, 27, 28, 29, 30, 31] (by decide +kernel) (by decide +kernel)
set_option maxRecDepth 20000 in
theorem gX4_goOff_X4_tell : GoodIn wsX4_goOff (wsV RX4 67 RX4 yX4_tell wsX4_tell) := goodIn_app (goodIn_of _ (by decide +kernel)) ggX4_goOff_X4_tell
theorem dX4_goOff_0 : decode cX4_goOff 0 = .ok (.aload_n 1, 1) := by decide +kernel
theorem dX4_goOff_1 : decode cX4_goOff 1 = .ok (.getfield 104, 3) := by decide +kernel
theorem dX4_goOff_4 : decode cX4_goOff 4 = .ok (.ifCond .ne 9, 3) := by decide +kernel
theorem dX4_goOff_7 : decode cX4_goOff 7 = .ok (.aload_n 0, 1) := by decide +kernel
theorem dX4_goOff_8 : decode cX4_goOff 8 = .ok (.iconst 1, 1) := by decide +kernel
theorem dX4_goOff_9 : decode cX4_goOff 9 = .ok (.invokevirtual 67, 3) := by decide +kernel
theorem dX4_goOff_12 : decode cX4_goOff 12 = .ok (.ireturn, 1) := by decide +kernel
theorem dX4_goOff_13 : decode cX4_goOff 13 = .ok (.aload_n 0, 1) := by decide +kernel
theorem dX4_goOff_14 : decode cX4_goOff 14 = .ok (.aload_n 1, 1) := by decide +kernel
theorem dX4_goOff_15 : decode cX4_goOff 15 = .ok (.getfield 104, 3) := by decide +kernel
theorem dX4_goOff_18 : decode cX4_goOff 18 = .ok (.putfield 48, 3) := by decide +kernel
theorem dX4_goOff_21 : decode cX4_goOff 21 = .ok (.aload_n 0, 1) := by decide +kernel
theorem dX4_goOff_22 : decode cX4_goOff 22 = .ok (.bipush 6, 2) := by decide +kernel
theorem dX4_goOff_24 : decode cX4_goOff 24 = .ok (.invokevirtual 67, 3) := by decide +kernel
theorem dX4_goOff_27 : decode cX4_goOff 27 = .ok (.ireturn, 1) := by decide +kernel
set_option maxRecDepth 20000 in
theorem ggX4_tell_X4_isWithin : GoodIn wsX4_tell wsX4_isWithin := goodIn_r _ [5] (by decide +kernel) (by decide +kernel)
set_option maxRecDepth 20000 in
theorem gX4_tell_X4_isWithin : GoodIn wsX4_tell (va_wsS RX4 55 yX4_isWithin wsX4_isWithin) := goodIn_app (goodIn_of _ (by decide +kernel)) ggX4_tell_X4_isWithin
theorem dX4_tell_0 : decode cX4_tell 0 = .ok (.iload_n 1, 1) := by decide +kernel
theorem dX4_tell_1 : decode cX4_tell 1 = .ok (.iconst 1, 1) := by decide +kernel
theorem dX4_tell_2 : decode cX4_tell 2 = .ok (.bipush 6, 2) := by decide +kernel
theorem dX4_tell_4 : decode cX4_tell 4 = .ok (.invokestatic 55, 3) := by decide +kernel
theorem dX4_tell_7 : decode cX4_tell 7 = .ok (.ifCond .eq 13, 3) := by decide +kernel
theorem dX4_tell_10 : decode cX4_tell 10 = .ok (.aload_n 0, 1) := by decide +kernel
theorem dX4_tell_11 : decode cX4_tell 11 = .ok (.getfield 45, 3) := by decide +kernel
theorem dX4_tell_14 : decode cX4_tell 14 = .ok (.iload_n 1, 1) := by decide +kernel
theorem dX4_tell_15 : decode cX4_tell 15 = .ok (.dup2, 1) := by decide +kernel
theorem dX4_tell_16 : decode cX4_tell 16 = .ok (.iaload, 1) := by decide +kernel
theorem dX4_tell_17 : decode cX4_tell 17 = .ok (.iconst 1, 1) := by decide +kernel
theorem dX4_tell_18 : decode cX4_tell 18 = .ok (.iadd, 1) := by decide +kernel
theorem dX4_tell_19 : decode cX4_tell 19 = .ok (.iastore, 1) := by decide +kernel
theorem dX4_tell_20 : decode cX4_tell 20 = .ok (.bipush (-10), 2) := by decide +kernel
theorem dX4_tell_22 : decode cX4_tell 22 = .ok (.iload_n 1, 1) := by decide +kernel
theorem dX4_tell_23 : decode cX4_tell 23 = .ok (.isub, 1) := by decide +kernel
theorem dX4_tell_24 : decode cX4_tell 24 = .ok (.ireturn, 1) := by decide +kernel
set_option maxRecDepth 20000 in
theorem ggX4_tellWhyNot_X4_tell : GoodIn wsX4_tellWhyNot wsX4_tell := goodIn_r _ [5, 6, 7, 8, 4, 9, 10, 11, 12, 13, 14, 15, 16, 17, 18, 19, 20] (by decide +kernel) (by decide +kernel)
set_option maxRecDepth 20000 in
theorem gX4_tellWhyNot_X4_tell : GoodIn wsX4_tellWhyNot (wsV RX4 67 RX4 yX4_tell wsX4_tell) := goodIn_app (goodIn_of _ (by decide +kernel)) ggX4_tellWhyNot_X4_tell
theorem dX4_tellWhyNot_0 : decode cX4_tellWhyNot 0 = .ok (.aload_n 0, 1) := by decide +kernel
theorem dX4_tellWhyNot_1 : decode cX4_tellWhyNot 1 = .ok (.aload_n 1, 1) := by decide +kernel
theorem dX4_tellWhyNot_2 : decode cX4_tellWhyNot 2 = .ok (.ifnonnull 7, 3) := by decide +kernel
theorem dX4_tellWhyNot_5 : decode cX4_tellWhyNot 5 = .ok (.iconst 1, 1) := by decide +kernel
theorem dX4_tellWhyNot_6 : decode cX4_tellWhyNot 6 = .ok (.goto 4, 3) := by decide +kernel
theorem dX4_tellWhyNot_9 : decode cX4_tellWhyNot 9 = .ok (.iconst 2, 1) := by decide +kernel
theorem dX4_tellWhyNot_10 : decode cX4_tellWhyNot 10 = .ok (.invokevirtual 67, 3) := by decide +kernel
theorem dX4_tellWhyNot_13 : decode cX4_tellWhyNot 13 = .ok (.ireturn, 1) := by decide +kernel
theorem dX4_isPlace_0 : decode cX4_isPlace 0 = .ok (.iload_n 1, 1) := by decide +kernel
theorem dX4_isPlace_1 : decode cX4_isPlace 1 = .ok (.ifCond .lt 24, 3) := by decide +kernel
theorem dX4_isPlace_4 : decode cX4_isPlace 4 = .ok (.iload_n 1, 1) := by decide +kernel
theorem dX4_isPlace_5 : decode cX4_isPlace 5 = .ok (.aload_n 0, 1) := by decide +kernel
theorem dX4_isPlace_6 : decode cX4_isPlace 6 = .ok (.getfield 21, 3) := by decide +kernel
theorem dX4_isPlace_9 : decode cX4_isPlace 9 = .ok (.if_icmp .ge 16, 3) := by decide +kernel
theorem dX4_isPlace_12 : decode cX4_isPlace 12 = .ok (.iload_n 1, 1) := by decide +kernel
theorem dX4_isPlace_13 : decode cX4_isPlace 13 = .ok (.aload_n 0, 1) := by decide +kernel
theorem dX4_isPlace_14 : decode cX4_isPlace 14 = .ok (.getfield 17, 3) := by decide +kernel
theorem dX4_isPlace_17 : decode cX4_isPlace 17 = .ok (.arraylength, 1) := by decide +kernel
theorem dX4_isPlace_18 : decode cX4_isPlace 18 = .ok (.if_icmp .ge 7, 3) := by decide +kernel
theorem dX4_isPlace_21 : decode cX4_isPlace 21 = .ok (.iconst 1, 1) := by decide +kernel
theorem dX4_isPlace_22 : decode cX4_isPlace 22 = .ok (.goto 4, 3) := by decide +kernel
theorem dX4_isPlace_25 : decode cX4_isPlace 25 = .ok (.iconst 0, 1) := by decide +kernel
theorem dX4_isPlace_26 : decode cX4_isPlace 26 = .ok (.ireturn, 1) := by decide +kernel
theorem dX4_isNumber_0 : decode cX4_isNumber 0 = .ok (.iload_n 1, 1) := by decide +kernel
theorem dX4_isNumber_1 : decode cX4_isNumber 1 = .ok (.ifCond .lt 24, 3) := by decide +kernel
theorem dX4_isNumber_4 : decode cX4_isNumber 4 = .ok (.iload_n 1, 1) := by decide +kernel
theorem dX4_isNumber_5 : decode cX4_isNumber 5 = .ok (.aload_n 0, 1) := by decide +kernel
theorem dX4_isNumber_6 : decode cX4_isNumber 6 = .ok (.getfield 33, 3) := by decide +kernel
theorem dX4_isNumber_9 : decode cX4_isNumber 9 = .ok (.if_icmp .ge 16, 3) := by decide +kernel
theorem dX4_isNumber_12 : decode cX4_isNumber 12 = .ok (.iload_n 1, 1) := by decide +kernel
theorem dX4_isNumber_13 : decode cX4_isNumber 13 = .ok (.aload_n 0, 1) := by decide +kernel
theorem dX4_isNumber_14 : decode cX4_isNumber 14 = .ok (.getfield 29, 3) := by decide +kernel
theorem dX4_isNumber_17 : decode cX4_isNumber 17 = .ok (.arraylength, 1) := by decide +kernel
theorem dX4_isNumber_18 : decode cX4_isNumber 18 = .ok (.if_icmp .ge 7, 3) := by decide +kernel
theorem dX4_isNumber_21 : decode cX4_isNumber 21 = .ok (.iconst 1, 1) := by decide +kernel
theorem dX4_isNumber_22 : decode cX4_isNumber 22 = .ok (.goto 4, 3) := by decide +kernel
theorem dX4_isNumber_25 : decode cX4_isNumber 25 = .ok (.iconst 0, 1) := by decide +kernel
theorem dX4_isNumber_26 : decode cX4_isNumber 26 = .ok (.ireturn, 1) := by decide +kernel
theorem dX4_isMark_0 : decode cX4_isMark 0 = .ok (.iload_n 1, 1) := by decide +kernel
theorem dX4_isMark_1 : decode cX4_isMark 1 = .ok (.ifCond .lt 39, 3) := by decide +kernel
theorem dX4_isMark_4 : decode cX4_isMark 4 = .ok (.iload_n 1, 1) := by decide +kernel
theorem dX4_isMark_5 : decode cX4_isMark 5 = .ok (.aload_n 0, 1) := by decide +kernel
theorem dX4_isMark_6 : decode cX4_isMark 6 = .ok (.getfield 39, 3) := by decide +kernel
theorem dX4_isMark_9 : decode cX4_isMark 9 = .ok (.if_icmp .ge 31, 3) := by decide +kernel
theorem dX4_isMark_12 : decode cX4_isMark 12 = .ok (.iload_n 1, 1) := by decide +kernel
theorem dX4_isMark_13 : decode cX4_isMark 13 = .ok (.bipush 12, 2) := by decide +kernel
theorem dX4_isMark_15 : decode cX4_isMark 15 = .ok (.if_icmp .ge 25, 3) := by decide +kernel
theorem dX4_isMark_18 : decode cX4_isMark 18 = .ok (.iload_n 2, 1) := by decide +kernel
theorem dX4_isMark_19 : decode cX4_isMark 19 = .ok (.ifCond .lt 21, 3) := by decide +kernel
theorem dX4_isMark_22 : decode cX4_isMark 22 = .ok (.iload_n 2, 1) := by decide +kernel
theorem dX4_isMark_23 : decode cX4_isMark 23 = .ok (.aload_n 0, 1) := by decide +kernel
theorem dX4_isMark_24 : decode cX4_isMark 24 = .ok (.getfield 42, 3) := by decide +kernel
theorem dX4_isMark_27 : decode cX4_isMark 27 = .ok (.if_icmp .ge 13, 3) := by decide +kernel
theorem dX4_isMark_30 : decode cX4_isMark 30 = .ok (.iload_n 2, 1) := by decide +kernel
theorem dX4_isMark_31 : decode cX4_isMark 31 = .ok (.bipush 12, 2) := by decide +kernel
theorem dX4_isMark_33 : decode cX4_isMark 33 = .ok (.if_icmp .ge 7, 3) := by decide +kernel
theorem dX4_isMark_36 : decode cX4_isMark 36 = .ok (.iconst 1, 1) := by decide +kernel
theorem dX4_isMark_37 : decode cX4_isMark 37 = .ok (.goto 4, 3) := by decide +kernel
theorem dX4_isMark_40 : decode cX4_isMark 40 = .ok (.iconst 0, 1) := by decide +kernel
theorem dX4_isMark_41 : decode cX4_isMark 41 = .ok (.ireturn, 1) := by decide +kernel
theorem dX4_clearPlaces_0 : decode cX4_clearPlaces 0 = .ok (.iconst 0, 1) := by decide +kernel
theorem dX4_clearPlaces_1 : decode cX4_clearPlaces 1 = .ok (.istore_n 1, 1) := by decide +kernel
theorem dX4_clearPlaces_2 : decode cX4_clearPlaces 2 = .ok (.iload_n 1, 1) := by decide +kernel
theorem dX4_clearPlaces_3 : decode cX4_clearPlaces 3 = .ok (.aload_n 0, 1) := by decide +kernel
theorem dX4_clearPlaces_4 : decode cX4_clearPlaces 4 = .ok (.getfield 17, 3) := by decide +kernel
theorem dX4_clearPlaces_7 : decode cX4_clearPlaces 7 = .ok (.arraylength, 1) := by decide +kernel
theorem dX4_clearPlaces_8 : decode cX4_clearPlaces 8 = .ok (.if_icmp .ge 16, 3) := by decide +kernel
theorem dX4_clearPlaces_11 : decode cX4_clearPlaces 11 = .ok (.aload_n 0, 1) := by decide +kernel
theorem dX4_clearPlaces_12 : decode cX4_clearPlaces 12 = .ok (.getfield 17, 3) := by decide +kernel
theorem dX4_clearPlaces_15 : decode cX4_clearPlaces 15 = .ok (.iload_n 1, 1) := by decide +kernel
theorem dX4_clearPlaces_16 : decode cX4_clearPlaces 16 = .ok (.aconst_null, 1) := by decide +kernel
theorem dX4_clearPlaces_17 : decode cX4_clearPlaces 17 = .ok (.aastore, 1) := by decide +kernel
theorem dX4_clearPlaces_18 : decode cX4_clearPlaces 18 = .ok (.iinc 1 1, 3) := by decide +kernel
theorem dX4_clearPlaces_21 : decode cX4_clearPlaces 21 = .ok (.goto (-19), 3) := by decide +kernel
theorem dX4_clearPlaces_24 : decode cX4_clearPlaces 24 = .ok (.return_, 1) := by decide +kernel
theorem dX4_clearNumbers_0 : decode cX4_clearNumbers 0 = .ok (.iconst 0, 1) := by decide +kernel
theorem dX4_clearNumbers_1 : decode cX4_clearNumbers 1 = .ok (.istore_n 1, 1) := by decide +kernel
theorem dX4_clearNumbers_2 : decode cX4_clearNumbers 2 = .ok (.iload_n 1, 1) := by decide +kernel
theorem dX4_clearNumbers_3 : decode cX4_clearNumbers 3 = .ok (.aload_n 0, 1) := by decide +kernel
theorem dX4_clearNumbers_4 : decode cX4_clearNumbers 4 = .ok (.arraylength, 1) := by decide +kernel
theorem dX4_clearNumbers_5 : decode cX4_clearNumbers 5 = .ok (.if_icmp .ge 13, 3) := by decide +kernel
theorem dX4_clearNumbers_8 : decode cX4_clearNumbers 8 = .ok (.aload_n 0, 1) := by decide +kernel
theorem dX4_clearNumbers_9 : decode cX4_clearNumbers 9 = .ok (.iload_n 1, 1) := by decide +kernel
theorem dX4_clearNumbers_10 : decode cX4_clearNumbers 10 = .ok (.iconst 0, 1) := by decide +kernel
theorem dX4_clearNumbers_11 : decode cX4_clearNumbers 11 = .ok (.iastore, 1) := by decide +kernel
theorem dX4_clearNumbers_12 : decode cX4_clearNumbers 12 = .ok (.iinc 1 1, 3) := by decide +kernel
theorem dX4_clearNumbers_15 : decode cX4_clearNumbers 15 = .ok (.goto (-13), 3) := by decide +kernel
theorem dX4_clearNumbers_18 : decode cX4_clearNumbers 18 = .ok (.return_, 1) := by decide +kernel
set_option maxRecDepth 20000 in
theorem ggX4_isHook_X4_isWithin : GoodIn wsX4_isHook wsX4_isWithin := goodIn_r _ [4] (by decide +kernel) (by decide +kernel)
set_option maxRecDepth 20000 in
theorem gX4_isHook_X4_isWithin : GoodIn wsX4_isHook (va_wsS RX4 55 yX4_isWithin wsX4_isWithin) := goodIn_app (goodIn_of _ (by decide +kernel)) ggX4_isHook_X4_isWithin
theorem dX4_isHook_0 : decode cX4_isHook 0 = .ok (.iload_n 0, 1) := by decide +kernel
theorem dX4_isHook_1 : decode cX4_isHook 1 = .ok (.iconst 0, 1) := by decide +kernel
theorem dX4_isHook_2 : decode cX4_isHook 2 = .ok (.bipush 9, 2) := by decide +kernel
theorem dX4_isHook_4 : decode cX4_isHook 4 = .ok (.invokestatic 55, 3) := by decide +kernel
theorem dX4_isHook_7 : decode cX4_isHook 7 = .ok (.ireturn, 1) := by decide +kernel
theorem dX4_isWithin_0 : decode cX4_isWithin 0 = .ok (.iload_n 0, 1) := by decide +kernel
theorem dX4_isWithin_1 : decode cX4_isWithin 1 = .ok (.iload_n 1, 1) := by decide +kernel
theorem dX4_isWithin_2 : decode cX4_isWithin 2 = .ok (.if_icmp .lt 12, 3) := by decide +kernel
theorem dX4_isWithin_5 : decode cX4_isWithin 5 = .ok (.iload_n 0, 1) := by decide +kernel
theorem dX4_isWithin_6 : decode cX4_isWithin 6 = .ok (.iload_n 2, 1) := by decide +kernel
theorem dX4_isWithin_7 : decode cX4_isWithin 7 = .ok (.if_icmp .gt 7, 3) := by decide +kernel
theorem dX4_isWithin_10 : decode cX4_isWithin 10 = .ok (.iconst 1, 1) := by decide +kernel
theorem dX4_isWithin_11 : decode cX4_isWithin 11 = .ok (.goto 4, 3) := by decide +kernel
theorem dX4_isWithin_14 : decode cX4_isWithin 14 = .ok (.iconst 0, 1) := by decide +kernel
theorem dX4_isWithin_15 : decode cX4_isWithin 15 = .ok (.ireturn, 1) := by decide +kernel
set_option maxRecDepth 20000 in
theorem ggX4_newThing_X0_init : GoodIn wsX4_newThing wsX0_init := goodIn_r _ [12, 13, 14, 15, 16, 17, 18, 19, 20, 29, 30, 31, 32, 38, 39, 33, 34, 35, 36, 37] (by decide +kernel) (by decide +kernel)
set_option maxRecDepth 20000 in
theorem gX4_newThing_X0_init : GoodIn wsX4_newThing (wsX0_init) := ggX4_newThing_X0_init
set_option maxRecDepth 20000 in
theorem ggX4_newThing_X2_init : GoodIn wsX4_newThing wsX2_init := goodIn_r _ [23, 24, 11, 3, 12, 13, 14, 15, 16, 17, 18, 19, 20, 29, 30, 31, 32, 38, 39, 33, 34, 35, 36, 37] (by decide +kernel) (by decide +kernel)
set_option maxRecDepth 20000 in
theorem gX4_newThing_X2_init : GoodIn wsX4_newThing (wsX2_init) := ggX4_newThing_X2_init
set_option maxRecDepth 20000 in
theorem ggX4_newThing_X1_init : GoodIn wsX4_newThing wsX1_init := goodIn_r _ [27, 28, 14, 15, 16, 17, 18, 19, 20, 29, 30, 31, 32, 38, 39, 33, 34, 35, 36, 37] (by decide +kernel) (by decide +kernel)
set_option maxRecDepth 20000 in
theorem gX4_newThing_X1_init : GoodIn wsX4_newThing (wsX1_init) := ggX4_newThing_X1_init
theorem dX4_newThing_0 : decode cX4_newThing 0 = .ok (.iload_n 0, 1) := by decide +kernel
theorem dX4_newThing_1 : decode cX4_newThing 1 = .ok (.tableswitch 54 1 3 #[27, 36, 45], 27) := by decide +kernel
theorem dX4_newThing_28 : decode cX4_newThing 28 = .ok (.new 15, 3) := by decide +kernel
theorem dX4_newThing_31 : decode cX4_newThing 31 = .ok (.dup, 1) := by decide +kernel
theorem dX4_newThing_32 : decode cX4_newThing 32 = .ok (.iload_n 1, 1) := by decide +kernel
theorem dX4_newThing_33 : decode cX4_newThing 33 = .ok (.invokespecial 155, 3) := by decide +kernel
theorem dX4_newThing_36 : decode cX4_newThing 36 = .ok (.areturn, 1) := by decide +kernel
theorem dX4_newThing_37 : decode cX4_newThing 37 = .ok (.new 90, 3) := by decide +kernel
theorem dX4_newThing_40 : decode cX4_newThing 40 = .ok (.dup, 1) := by decide +kernel
theorem dX4_newThing_41 : decode cX4_newThing 41 = .ok (.iload_n 1, 1) := by decide +kernel
theorem dX4_newThing_42 : decode cX4_newThing 42 = .ok (.invokespecial 158, 3) := by decide +kernel
theorem dX4_newThing_45 : decode cX4_newThing 45 = .ok (.areturn, 1) := by decide +kernel
theorem dX4_newThing_46 : decode cX4_newThing 46 = .ok (.new 94, 3) := by decide +kernel
theorem dX4_newThing_49 : decode cX4_newThing 49 = .ok (.dup, 1) := by decide +kernel
theorem dX4_newThing_50 : decode cX4_newThing 50 = .ok (.iload_n 1, 1) := by decide +kernel
theorem dX4_newThing_51 : decode cX4_newThing 51 = .ok (.invokespecial 159, 3) := by decide +kernel
theorem dX4_newThing_54 : decode cX4_newThing 54 = .ok (.areturn, 1) := by decide +kernel
theorem dX4_newThing_55 : decode cX4_newThing 55 = .ok (.aconst_null, 1) := by decide +kernel
theorem dX4_newThing_56 : decode cX4_newThing 56 = .ok (.areturn, 1) := by decide +kernel
set_option maxRecDepth 20000 in
theorem ggX4_sortOf_X0_sortNumber : GoodIn wsX4_sortOf wsX0_sortNumber := goodIn_r _ [6] (by decide +kernel) (by decide +kernel)
set_option maxRecDepth 20000 in
theorem gX4_sortOf_X0_sortNumber_u131X0 : GoodIn wsX4_sortOf (va_wsU RX4 131 RX0 "BellLoft$Thing" ⟨"BellLoft$Thing", "sortNumber", "()I"⟩ yX0_sortNumber wsX0_sortNumber) := goodIn_app (goodIn_of _ (by decide +kernel)) ggX4_sortOf_X0_sortNumber
set_option maxRecDepth 20000 in
theorem ggX4_sortOf_X1_sortNumber : GoodIn wsX4_sortOf wsX1_sortNumber := goodIn_r _ [10] (by decide +kernel) (by decide +kernel)
set_option maxRecDepth 20000 in
theorem gX4_sortOf_X1_sortNumber_u131X1 : GoodIn wsX4_sortOf (va_wsU RX4 131 RX1 "BellLoft$Thing" ⟨"BellLoft$Thing", "sortNumber", "()I"⟩ yX1_sortNumber wsX1_sortNumber) := goodIn_app (goodIn_of _ (by decide +kernel)) ggX4_sortOf_X1_sortNumber
set_option maxRecDepth 20000 in
theorem ggX4_sortOf_X2_sortNumber : GoodIn wsX4_sortOf wsX2_sortNumber := goodIn_r _ [14] (by decide +kernel) (by decide +kernel)
set_option maxRecDepth 20000 in
theorem gX4_sortOf_X2_sortNumber_u131X2 : GoodIn wsX4_sortOf (va_wsU RX4 131 RX2 "BellLoft$Thing" ⟨"BellLoft$Thing", "sortNumber", "()I"⟩ yX2_sortNumber wsX2_sortNumber) := goodIn_app (goodIn_of _ (by decide +kernel)) ggX4_sortOf_X2_sortNumber
theorem dX4_sortOf_0 : decode cX4_sortOf 0 = .ok (.aload_n 0, 1) := by decide +kernel
theorem dX4_sortOf_1 : decode cX4_sortOf 1 = .ok (.ifnonnull 7, 3) := by decide +kernel
theorem dX4_sortOf_4 : decode cX4_sortOf 4 = .ok (.iconst 0, 1) := by decide +kernel
theorem dX4_sortOf_5 : decode cX4_sortOf 5 = .ok (.goto 7, 3) := by decide +kernel
theorem dX4_sortOf_8 : decode cX4_sortOf 8 = .ok (.aload_n 0, 1) := by decide +kernel
theorem dX4_sortOf_9 : decode cX4_sortOf 9 = .ok (.invokevirtual 131, 3) := by decide +kernel
theorem dX4_sortOf_12 : decode cX4_sortOf 12 = .ok (.ireturn, 1) := by decide +kernel
theorem dX4_bellOf_0 : decode cX4_bellOf 0 = .ok (.aload_n 0, 1) := by decide +kernel
theorem dX4_bellOf_1 : decode cX4_bellOf 1 = .ok (.instanceof 15, 3) := by decide +kernel
theorem dX4_bellOf_4 : decode cX4_bellOf 4 = .ok (.ifCond .eq 10, 3) := by decide +kernel
theorem dX4_bellOf_7 : decode cX4_bellOf 7 = .ok (.aload_n 0, 1) := by decide +kernel
theorem dX4_bellOf_8 : decode cX4_bellOf 8 = .ok (.checkcast 15, 3) := by decide +kernel
theorem dX4_bellOf_11 : decode cX4_bellOf 11 = .ok (.goto 4, 3) := by decide +kernel
theorem dX4_bellOf_14 : decode cX4_bellOf 14 = .ok (.aconst_null, 1) := by decide +kernel
theorem dX4_bellOf_15 : decode cX4_bellOf 15 = .ok (.areturn, 1) := by decide +kernel
theorem dX4_greatBellOf_0 : decode cX4_greatBellOf 0 = .ok (.aload_n 0, 1) := by decide +kernel
theorem dX4_greatBellOf_1 : decode cX4_greatBellOf 1 = .ok (.instanceof 90, 3) := by decide +kernel
theorem dX4_greatBellOf_4 : decode cX4_greatBellOf 4 = .ok (.ifCond .eq 10, 3) := by decide +kernel
theorem dX4_greatBellOf_7 : decode cX4_greatBellOf 7 = .ok (.aload_n 0, 1) := by decide +kernel
theorem dX4_greatBellOf_8 : decode cX4_greatBellOf 8 = .ok (.checkcast 90, 3) := by decide +kernel
theorem dX4_greatBellOf_11 : decode cX4_greatBellOf 11 = .ok (.goto 4, 3) := by decide +kernel
theorem dX4_greatBellOf_14 : decode cX4_greatBellOf 14 = .ok (.aconst_null, 1) := by decide +kernel
theorem dX4_greatBellOf_15 : decode cX4_greatBellOf 15 = .ok (.areturn, 1) := by decide +kernel
theorem dX4_clapperOf_0 : decode cX4_clapperOf 0 = .ok (.aload_n 0, 1) := by decide +kernel
theorem dX4_clapperOf_1 : decode cX4_clapperOf 1 = .ok (.instanceof 94, 3) := by decide +kernel
theorem dX4_clapperOf_4 : decode cX4_clapperOf 4 = .ok (.ifCond .eq 10, 3) := by decide +kernel
theorem dX4_clapperOf_7 : decode cX4_clapperOf 7 = .ok (.aload_n 0, 1) := by decide +kernel
theorem dX4_clapperOf_8 : decode cX4_clapperOf 8 = .ok (.checkcast 94, 3) := by decide +kernel
theorem dX4_clapperOf_11 : decode cX4_clapperOf 11 = .ok (.goto 4, 3) := by decide +kernel
theorem dX4_clapperOf_14 : decode cX4_clapperOf 14 = .ok (.aconst_null, 1) := by decide +kernel
theorem dX4_clapperOf_15 : decode cX4_clapperOf 15 = .ok (.areturn, 1) := by decide +kernel
