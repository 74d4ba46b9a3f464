set_option maxRecDepth 20000 in
theorem ggX0_init_X3_init : GoodIn wsX0_init wsX3_init := goodIn_r _ [4, 5, 6, 7, 8, 9, 10, 11, 12, 13, 14, 15, 16, 17, 18, 19] (by decide +kernel) (by decide +kernel)
set_option maxRecDepth 20000 in
theorem gX0_init_X3_init : GoodIn wsX0_init (wsX3_init) := ggX0_init_X3_init
theorem dX0_init_0 : decode cX0_init 0 = .ok (.aload_n 0, 1) := by decide +kernel
theorem dX0_init_1 : decode cX0_init 1 = .ok (.iload_n 1, 1) := by decide +kernel
theorem dX0_init_2 : decode cX0_init 2 = .ok (.invokespecial 3, 3) := by decide +kernel
theorem dX0_init_5 : decode cX0_init 5 = .ok (.return_, 1) := by decide +kernel
theorem dX0_sortNumber_0 : decode cX0_sortNumber 0 = .ok (.iconst 1, 1) := by decide +kernel
theorem dX0_sortNumber_1 : decode cX0_sortNumber 1 = .ok (.ireturn, 1) := by decide +kernel
theorem dX0_strokesSoFar_0 : decode cX0_strokesSoFar 0 = .ok (.aload_n 0, 1) := by decide +kernel
theorem dX0_strokesSoFar_1 : decode cX0_strokesSoFar 1 = .ok (.getfield 9, 3) := by decide +kernel
theorem dX0_strokesSoFar_4 : decode cX0_strokesSoFar 4 = .ok (.ireturn, 1) := by decide +kernel
theorem dX0_wearSoFar_0 : decode cX0_wearSoFar 0 = .ok (.aload_n 0, 1) := by decide +kernel
theorem dX0_wearSoFar_1 : decode cX0_wearSoFar 1 = .ok (.getfield 15, 3) := by decide +kernel
theorem dX0_wearSoFar_4 : decode cX0_wearSoFar 4 = .ok (.ifnonnull 7, 3) := by decide +kernel
theorem dX0_wearSoFar_7 : decode cX0_wearSoFar 7 = .ok (.iconst 0, 1) := by decide +kernel
theorem dX0_wearSoFar_8 : decode cX0_wearSoFar 8 = .ok (.goto 10, 3) := by decide +kernel
theorem dX0_wearSoFar_11 : decode cX0_wearSoFar 11 = .ok (.aload_n 0, 1) := by decide +kernel
theorem dX0_wearSoFar_12 : decode cX0_wearSoFar 12 = .ok (.getfield 15, 3) := by decide +kernel
theorem dX0_wearSoFar_15 : decode cX0_wearSoFar 15 = .ok (.getfield 19, 3) := by decide +kernel
theorem dX0_wearSoFar_18 : decode cX0_wearSoFar 18 = .ok (.ireturn, 1) := by decide +kernel
theorem dX0_alarmOrNone_0 : decode cX0_alarmOrNone 0 = .ok (.aload_n 0, 1) := by decide +kernel
theorem dX0_alarmOrNone_1 : decode cX0_alarmOrNone 1 = .ok (.getfield 24, 3) := by decide +kernel
theorem dX0_alarmOrNone_4 : decode cX0_alarmOrNone 4 = .ok (.ireturn, 1) := by decide +kernel
set_option maxRecDepth 20000 in
theorem ggX1_init_X3_init : GoodIn wsX1_init wsX3_init := goodIn_r _ [4, 5, 6, 7, 8, 9, 10, 11, 12, 13, 14, 15, 16, 17, 18, 19] (by decide +kernel) (by decide +kernel)
set_option maxRecDepth 20000 in
theorem gX1_init_X3_init : GoodIn wsX1_init (wsX3_init) := ggX1_init_X3_init
theorem dX1_init_0 : decode cX1_init 0 = .ok (.aload_n 0, 1) := by decide +kernel
theorem dX1_init_1 : decode cX1_init 1 = .ok (.iload_n 1, 1) := by decide +kernel
theorem dX1_init_2 : decode cX1_init 2 = .ok (.invokespecial 3, 3) := by decide +kernel
theorem dX1_init_5 : decode cX1_init 5 = .ok (.return_, 1) := by decide +kernel
theorem dX1_sortNumber_0 : decode cX1_sortNumber 0 = .ok (.iconst 3, 1) := by decide +kernel
theorem dX1_sortNumber_1 : decode cX1_sortNumber 1 = .ok (.ireturn, 1) := by decide +kernel
theorem dX1_wearSoFar_0 : decode cX1_wearSoFar 0 = .ok (.aload_n 0, 1) := by decide +kernel
theorem dX1_wearSoFar_1 : decode cX1_wearSoFar 1 = .ok (.getfield 9, 3) := by decide +kernel
theorem dX1_wearSoFar_4 : decode cX1_wearSoFar 4 = .ok (.ireturn, 1) := by decide +kernel
set_option maxRecDepth 20000 in
theorem ggX2_init_X0_init : GoodIn wsX2_init wsX0_init := goodIn_r _ [4, 5, 6, 7, 8, 9, 10, 11, 12, 13, 14, 15, 16, 17, 18, 19, 20, 21, 22, 23] (by decide +kernel) (by decide +kernel)
set_option maxRecDepth 20000 in
theorem gX2_init_X0_init : GoodIn wsX2_init (wsX0_init) := ggX2_init_X0_init
theorem dX2_init_0 : decode cX2_init 0 = .ok (.aload_n 0, 1) := by decide +kernel
theorem dX2_init_1 : decode cX2_init 1 = .ok (.iload_n 1, 1) := by decide +kernel
theorem dX2_init_2 : decode cX2_init 2 = .ok (.invokespecial 3, 3) := by decide +kernel
theorem dX2_init_5 : decode cX2_init 5 = .ok (.return_, 1) := by decide +kernel
theorem dX2_sortNumber_0 : decode cX2_sortNumber 0 = .ok (.iconst 2, 1) := by decide +kernel
theorem dX2_sortNumber_1 : decode cX2_sortNumber 1 = .ok (.ireturn, 1) := by decide +kernel
theorem dX2_humOrNone_0 : decode cX2_humOrNone 0 = .ok (.aload_n 0, 1) := by decide +kernel
theorem dX2_humOrNone_1 : decode cX2_humOrNone 1 = .ok (.getfield 9, 3) := by decide +kernel
theorem dX2_humOrNone_4 : decode cX2_humOrNone 4 = .ok (.ireturn, 1) := by decide +kernel
theorem dX3_init_0 : decode cX3_init 0 = .ok (.aload_n 0, 1) := by decide +kernel
theorem dX3_init_1 : decode cX3_init 1 = .ok (.invokespecial 1, 3) := by decide +kernel
theorem dX3_init_4 : decode cX3_init 4 = .ok (.aload_n 0, 1) := by decide +kernel
theorem dX3_init_5 : decode cX3_init 5 = .ok (.iload_n 1, 1) := by decide +kernel
theorem dX3_init_6 : decode cX3_init 6 = .ok (.putfield 7, 3) := by decide +kernel
theorem dX3_init_9 : decode cX3_init 9 = .ok (.return_, 1) := by decide +kernel
theorem dX3_strokesSoFar_0 : decode cX3_strokesSoFar 0 = .ok (.iconst 0, 1) := by decide +kernel
theorem dX3_strokesSoFar_1 : decode cX3_strokesSoFar 1 = .ok (.ireturn, 1) := by decide +kernel
theorem dX3_humOrNone_0 : decode cX3_humOrNone 0 = .ok (.iconst 0, 1) := by decide +kernel
theorem dX3_humOrNone_1 : decode cX3_humOrNone 1 = .ok (.ireturn, 1) := by decide +kernel
theorem dX3_alarmOrNone_0 : decode cX3_alarmOrNone 0 = .ok (.iconst 0, 1) := by decide +kernel
theorem dX3_alarmOrNone_1 : decode cX3_alarmOrNone 1 = .ok (.ireturn, 1) := by decide +kernel
theorem dX4_init_0 : decode cX4_init 0 = .ok (.aload_n 0, 1) := by decide +kernel
theorem dX4_init_1 : decode cX4_init 1 = .ok (.invokespecial 1, 3) := by decide +kernel
theorem dX4_init_4 : decode cX4_init 4 = .ok (.aload_n 0, 1) := by decide +kernel
theorem dX4_init_5 : decode cX4_init 5 = .ok (.bipush 10, 2) := by decide +kernel
theorem dX4_init_7 : decode cX4_init 7 = .ok (.anewarray 9, 3) := by decide +kernel
theorem dX4_init_10 : decode cX4_init 10 = .ok (.putfield 11, 3) := by decide +kernel
theorem dX4_init_13 : decode cX4_init 13 = .ok (.aload_n 0, 1) := by decide +kernel
theorem dX4_init_14 : decode cX4_init 14 = .ok (.bipush 12, 2) := by decide +kernel
theorem dX4_init_16 : decode cX4_init 16 = .ok (.anewarray 15, 3) := by decide +kernel
theorem dX4_init_19 : decode cX4_init 19 = .ok (.putfield 17, 3) := by decide +kernel
theorem dX4_init_22 : decode cX4_init 22 = .ok (.aload_n 0, 1) := by decide +kernel
theorem dX4_init_23 : decode cX4_init 23 = .ok (.iconst (-1), 1) := by decide +kernel
theorem dX4_init_24 : decode cX4_init 24 = .ok (.putfield 21, 3) := by decide +kernel
theorem dX4_init_27 : decode cX4_init 27 = .ok (.aload_n 0, 1) := by decide +kernel
theorem dX4_init_28 : decode cX4_init 28 = .ok (.iconst 0, 1) := by decide +kernel
theorem dX4_init_29 : decode cX4_init 29 = .ok (.putfield 25, 3) := by decide +kernel
theorem dX4_init_32 : decode cX4_init 32 = .ok (.aload_n 0, 1) := by decide +kernel
theorem dX4_init_33 : decode cX4_init 33 = .ok (.bipush 12, 2) := by decide +kernel
theorem dX4_init_35 : decode cX4_init 35 = .ok (.newarray .int, 2) := by decide +kernel
theorem dX4_init_37 : decode cX4_init 37 = .ok (.putfield 29, 3) := by decide +kernel
theorem dX4_init_40 : decode cX4_init 40 = .ok (.aload_n 0, 1) := by decide +kernel
theorem dX4_init_41 : decode cX4_init 41 = .ok (.iconst (-1), 1) := by decide +kernel
theorem dX4_init_42 : decode cX4_init 42 = .ok (.putfield 33, 3) := by decide +kernel
theorem dX4_init_45 : decode cX4_init 45 = .ok (.aload_n 0, 1) := by decide +kernel
theorem dX4_init_46 : decode cX4_init 46 = .ok (.sipush 144, 3) := by decide +kernel
theorem dX4_init_49 : decode cX4_init 49 = .ok (.newarray .int, 2) := by decide +kernel
theorem dX4_init_51 : decode cX4_init 51 = .ok (.putfield 36, 3) := by decide +kernel
theorem dX4_init_54 : decode cX4_init 54 = .ok (.aload_n 0, 1) := by decide +kernel
theorem dX4_init_55 : decode cX4_init 55 = .ok (.iconst (-1), 1) := by decide +kernel
theorem dX4_init_56 : decode cX4_init 56 = .ok (.putfield 39, 3) := by decide +kernel
theorem dX4_init_59 : decode cX4_init 59 = .ok (.aload_n 0, 1) := by decide +kernel
theorem dX4_init_60 : decode cX4_init 60 = .ok (.iconst (-1), 1) := by decide +kernel
theorem dX4_init_61 : decode cX4_init 61 = .ok (.putfield 42, 3) := by decide +kernel
theorem dX4_init_64 : decode cX4_init 64 = .ok (.aload_n 0, 1) := by decide +kernel
theorem dX4_init_65 : decode cX4_init 65 = .ok (.bipush 7, 2) := by decide +kernel
theorem dX4_init_67 : decode cX4_init 67 = .ok (.newarray .int, 2) := by decide +kernel
theorem dX4_init_69 : decode cX4_init 69 = .ok (.putfield 45, 3) := by decide +kernel
theorem dX4_init_72 : decode cX4_init 72 = .ok (.aload_n 0, 1) := by decide +kernel
theorem dX4_init_73 : decode cX4_init 73 = .ok (.iconst 0, 1) := by decide +kernel
theorem dX4_init_74 : decode cX4_init 74 = .ok (.putfield 48, 3) := by decide +kernel
theorem dX4_init_77 : decode cX4_init 77 = .ok (.return_, 1) := by decide +kernel
set_option maxRecDepth 20000 in
theorem ggX4_hang_X4_isHook : GoodIn wsX4_hang wsX4_isHook := goodIn_r _ [5, 6, 7, 4, 8] (by decide +kernel) (by decide +kernel)
set_option maxRecDepth 20000 in
theorem gX4_hang_X4_isHook : GoodIn wsX4_hang (va_wsS RX4 51 yX4_isHook wsX4_isHook) := goodIn_app (goodIn_of _ (by decide +kernel)) ggX4_hang_X4_isHook
set_option maxRecDepth 20000 in
theorem ggX4_hang_X4_isWithin : GoodIn wsX4_hang wsX4_isWithin := goodIn_r _ [8] (by decide +kernel) (by decide +kernel)
set_option maxRecDepth 20000 in
theorem gX4_hang_X4_isWithin : GoodIn wsX4_hang (va_wsS RX4 55 yX4_isWithin wsX4_isWithin) := goodIn_app (goodIn_of _ (by decide +kernel)) ggX4_hang_X4_isWithin
set_option maxRecDepth 20000 in
theorem ggX4_hang_X4_sortOf : GoodIn wsX4_hang wsX4_sortOf := goodIn_r _ [11, 12, 13, 14, 15, 16, 17, 18, 19, 20, 21, 22, 23, 24, 25] (by decide +kernel) (by decide +kernel)
set_option maxRecDepth 20000 in
theorem gX4_hang_X4_sortOf : GoodIn wsX4_hang (va_wsS RX4 59 yX4_sortOf wsX4_sortOf) := goodIn_app (goodIn_of _ (by decide +kernel)) ggX4_hang_X4_sortOf
set_option maxRecDepth 20000 in
theorem ggX4_hang_X4_newThing : GoodIn wsX4_hang wsX4_newThing := goodIn_r _ [28, 29, 30, 16, 31, 32, 24, 33, 34, 20, 35, 36, 37, 38, 39, 40, 41, 42, 43, 44, 45, 46, 47, 48, 49, 50, 51, 52, 53, 65, 66, 67, 68, 69, 70, 71, 72, 73, 74, 75] (by decide +kernel) (by decide +kernel)
set_option maxRecDepth 20000 in
theorem gX4_hang_X4_newThing : GoodIn wsX4_hang (va_wsS RX4 63 yX4_newThing wsX4_newThing) := goodIn_app (goodIn_of _ (by decide +kernel)) ggX4_hang_X4_newThing
theorem dX4_hang_0 : decode cX4_hang 0 = .ok (.iload_n 1, 1) := by decide +kernel
theorem dX4_hang_1 : decode cX4_hang 1 = .ok (.invokestatic 51, 3) := by decide +kernel
theorem dX4_hang_4 : decode cX4_hang 4 = .ok (.ifCond .eq 12, 3) := by decide +kernel
theorem dX4_hang_7 : decode cX4_hang 7 = .ok (.iload_n 2, 1) := by decide +kernel
theorem dX4_hang_8 : decode cX4_hang 8 = .ok (.iconst 0, 1) := by decide +kernel
theorem dX4_hang_9 : decode cX4_hang 9 = .ok (.iconst 3, 1) := by decide +kernel
theorem dX4_hang_10 : decode cX4_hang 10 = .ok (.invokestatic 55, 3) := by decide +kernel
theorem dX4_hang_13 : decode cX4_hang 13 = .ok (.ifCond .ne 5, 3) := by decide +kernel
theorem dX4_hang_16 : decode cX4_hang 16 = .ok (.iconst (-1), 1) := by decide +kernel
theorem dX4_hang_17 : decode cX4_hang 17 = .ok (.ireturn, 1) := by decide +kernel
theorem dX4_hang_18 : decode cX4_hang 18 = .ok (.iload_n 2, 1) := by decide +kernel
theorem dX4_hang_19 : decode cX4_hang 19 = .ok (.ifCond .eq 16, 3) := by decide +kernel
theorem dX4_hang_22 : decode cX4_hang 22 = .ok (.iload_n 3, 1) := by decide +kernel
theorem dX4_hang_23 : decode cX4_hang 23 = .ok (.iconst 1, 1) := by decide +kernel
theorem dX4_hang_24 : decode cX4_hang 24 = .ok (.sipush 1000, 3) := by decide +kernel
theorem dX4_hang_27 : decode cX4_hang 27 = .ok (.invokestatic 55, 3) := by decide +kernel
theorem dX4_hang_30 : decode cX4_hang 30 = .ok (.ifCond .ne 5, 3) := by decide +kernel
theorem dX4_hang_33 : decode cX4_hang 33 = .ok (.iconst (-1), 1) := by decide +kernel
theorem dX4_hang_34 : decode cX4_hang 34 = .ok (.ireturn, 1) := by decide +kernel
theorem dX4_hang_35 : decode cX4_hang 35 = .ok (.aload_n 0, 1) := by decide +kernel
theorem dX4_hang_36 : decode cX4_hang 36 = .ok (.getfield 11, 3) := by decide +kernel
theorem dX4_hang_39 : decode cX4_hang 39 = .ok (.iload_n 1, 1) := by decide +kernel
theorem dX4_hang_40 : decode cX4_hang 40 = .ok (.aaload, 1) := by decide +kernel
theorem dX4_hang_41 : decode cX4_hang 41 = .ok (.invokestatic 59, 3) := by decide +kernel
theorem dX4_hang_44 : decode cX4_hang 44 = .ok (.istore 4, 2) := by decide +kernel
theorem dX4_hang_46 : decode cX4_hang 46 = .ok (.aload_n 0, 1) := by decide +kernel
theorem dX4_hang_47 : decode cX4_hang 47 = .ok (.getfield 11, 3) := by decide +kernel
theorem dX4_hang_50 : decode cX4_hang 50 = .ok (.iload_n 1, 1) := by decide +kernel
theorem dX4_hang_51 : decode cX4_hang 51 = .ok (.iload_n 2, 1) := by decide +kernel
theorem dX4_hang_52 : decode cX4_hang 52 = .ok (.iload_n 3, 1) := by decide +kernel
theorem dX4_hang_53 : decode cX4_hang 53 = .ok (.invokestatic 63, 3) := by decide +kernel
theorem dX4_hang_56 : decode cX4_hang 56 = .ok (.aastore, 1) := by decide +kernel
theorem dX4_hang_57 : decode cX4_hang 57 = .ok (.iload 4, 2) := by decide +kernel
theorem dX4_hang_59 : decode cX4_hang 59 = .ok (.ireturn, 1) := by decide +kernel
set_option maxRecDepth 20000 in
theorem ggX4_weigh_X4_isHook : GoodIn wsX4_weigh wsX4_isHook := goodIn_r _ [6, 7, 8, 5, 9] (by decide +kernel) (by decide +kernel)
set_option maxRecDepth 20000 in
theorem gX4_weigh_X4_isHook : GoodIn wsX4_weigh (va_wsS RX4 51 yX4_isHook wsX4_isHook) := goodIn_app (goodIn_of _ (by decide +kernel)) ggX4_weigh_X4_isHook
set_option maxRecDepth 20000 in
theorem ggX4_weigh_X4_tell : GoodIn wsX4_weigh wsX4_tell := goodIn_r _ [13, 14, 7, 8, 5, 9, 15, 16, 17, 18, 19, 20, 21, 22, 23, 24, 25] (by decide +kernel) (by decide +kernel)
set_option maxRecDepth 20000 in
theorem gX4_weigh_X4_tell : GoodIn wsX4_weigh (wsV RX4 67 RX4 yX4_tell wsX4_tell) := goodIn_app (goodIn_of _ (by decide +kernel)) ggX4_weigh_X4_tell
theorem dX4_weigh_0 : decode cX4_weigh 0 = .ok (.iload_n 1, 1) := by decide +kernel
theorem dX4_weigh_1 : decode cX4_weigh 1 = .ok (.invokestatic 51, 3) := by decide +kernel
theorem dX4_weigh_4 : decode cX4_weigh 4 = .ok (.ifCond .ne 5, 3) := by decide +kernel
theorem dX4_weigh_7 : decode cX4_weigh 7 = .ok (.iconst (-1), 1) := by decide +kernel
theorem dX4_weigh_8 : decode cX4_weigh 8 = .ok (.ireturn, 1) := by decide +kernel
theorem dX4_weigh_9 : decode cX4_weigh 9 = .ok (.aload_n 0, 1) := by decide +kernel
theorem dX4_weigh_10 : decode cX4_weigh 10 = .ok (.getfield 11, 3) := by decide +kernel
theorem dX4_weigh_13 : decode cX4_weigh 13 = .ok (.iload_n 1, 1) := by decide +kernel
theorem dX4_weigh_14 : decode cX4_weigh 14 = .ok (.aaload, 1) := by decide +kernel
theorem dX4_weigh_15 : decode cX4_weigh 15 = .ok (.astore_n 2, 1) := by decide +kernel
theorem dX4_weigh_16 : decode cX4_weigh 16 = .ok (.aload_n 2, 1) := by decide +kernel
theorem dX4_weigh_17 : decode cX4_weigh 17 = .ok (.ifnonnull 11, 3) := by decide +kernel
theorem dX4_weigh_20 : decode cX4_weigh 20 = .ok (.aload_n 0, 1) := by decide +kernel
theorem dX4_weigh_21 : decode cX4_weigh 21 = .ok (.iconst 1, 1) := by decide +kernel
theorem dX4_weigh_22 : decode cX4_weigh 22 = .ok (.invokevirtual 67, 3) := by decide +kernel
theorem dX4_weigh_25 : decode cX4_weigh 25 = .ok (.goto 7, 3) := by decide +kernel
theorem dX4_weigh_28 : decode cX4_weigh 28 = .ok (.aload_n 2, 1) := by decide +kernel
theorem dX4_weigh_29 : decode cX4_weigh 29 = .ok (.getfield 71, 3) := by decide +kernel
theorem dX4_weigh_32 : decode cX4_weigh 32 = .ok (.ireturn, 1) := by decide +kernel
set_option maxRecDepth 20000 in
theorem ggX4_ring_X4_isHook : GoodIn wsX4_ring wsX4_isHook := goodIn_r _ [5, 6, 7, 4, 8] (by decide +kernel) (by decide +kernel)
set_option maxRecDepth 20000 in
theorem gX4_ring_X4_isHook : GoodIn wsX4_ring (va_wsS RX4 51 yX4_isHook wsX4_isHook) := goodIn_app (goodIn_of _ (by decide +kernel)) ggX4_ring_X4_isHook
set_option maxRecDepth 20000 in
theorem ggX4_ring_X4_bellOf : GoodIn wsX4_ring wsX4_bellOf := goodIn_r _ [11, 12] (by decide +kernel) (by decide +kernel)
set_option maxRecDepth 20000 in
theorem gX4_ring_X4_bellOf : GoodIn wsX4_ring (va_wsS RX4 74 yX4_bellOf wsX4_bellOf) := goodIn_app (goodIn_of _ (by decide +kernel)) ggX4_ring_X4_bellOf
set_option maxRecDepth 20000 in
theorem ggX4_ring_X4_tellWhyNot : GoodIn wsX4_ring wsX4_tellWhyNot := goodIn_r _ [16, 17, 18, 19, 4, 20, 21, 6, 7, 8, 51, 52, 53, 54, 55, 56, 57, 58, 59, 60, 61] (by decide +kernel) (by decide +kernel)
set_option maxRecDepth 20000 in
theorem gX4_ring_X4_tellWhyNot : GoodIn wsX4_ring (wsV RX4 78 RX4 yX4_tellWhyNot wsX4_tellWhyNot) := goodIn_app (goodIn_of _ (by decide +kernel)) ggX4_ring_X4_tellWhyNot
set_option maxRecDepth 20000 in
theorem ggX4_ring_X4_sound : GoodIn wsX4_ring wsX4_sound := goodIn_r _ [25, 26, 27, 28, 29, 30, 31, 32, 33, 34, 35, 4, 36, 37, 38, 17, 18, 19, 20, 21, 6, 7, 8, 39, 40, 41, 42, 43, 44, 45, 46, 47, 48, 49, 50, 62, 63, 64, 65, 66, 67, 68, 69, 70, 71, 72, 51, 52, 53, 54, 55, 56, 57, 58, 59, 60, 61] (by decide +kernel) (by decide +kernel)
set_option maxRecDepth 20000 in
theorem gX4_ring_X4_sound : GoodIn wsX4_ring (wsV RX4 81 RX4 yX4_sound wsX4_sound) := goodIn_app (goodIn_of _ (by decide +kernel)) ggX4_ring_X4_sound
theorem dX4_ring_0 : decode cX4_ring 0 = .ok (.iload_n 1, 1) := by decide +kernel
theorem dX4_ring_1 : decode cX4_ring 1 = .ok (.invokestatic 51, 3) := by decide +kernel
theorem dX4_ring_4 : decode cX4_ring 4 = .ok (.ifCond .ne 5, 3) := by decide +kernel
theorem dX4_ring_7 : decode cX4_ring 7 = .ok (.iconst (-1), 1) := by decide +kernel
theorem dX4_ring_8 : decode cX4_ring 8 = .ok (.ireturn, 1) := by decide +kernel
theorem dX4_ring_9 : decode cX4_ring 9 = .ok (.aload_n 0, 1) := by decide +kernel
theorem dX4_ring_10 : decode cX4_ring 10 = .ok (.getfield 11, 3) := by decide +kernel
theorem dX4_ring_13 : decode cX4_ring 13 = .ok (.iload_n 1, 1) := by decide +kernel
theorem dX4_ring_14 : decode cX4_ring 14 = .ok (.aaload, 1) := by decide +kernel
theorem dX4_ring_15 : decode cX4_ring 15 = .ok (.invokestatic 74, 3) := by decide +kernel
theorem dX4_ring_18 : decode cX4_ring 18 = .ok (.astore_n 2, 1) := by decide +kernel
theorem dX4_ring_19 : decode cX4_ring 19 = .ok (.aload_n 2, 1) := by decide +kernel
theorem dX4_ring_20 : decode cX4_ring 20 = .ok (.ifnonnull 16, 3) := by decide +kernel
theorem dX4_ring_23 : decode cX4_ring 23 = .ok (.aload_n 0, 1) := by decide +kernel
theorem dX4_ring_24 : decode cX4_ring 24 = .ok (.aload_n 0, 1) := by decide +kernel
theorem dX4_ring_25 : decode cX4_ring 25 = .ok (.getfield 11, 3) := by decide +kernel
theorem dX4_ring_28 : decode cX4_ring 28 = .ok (.iload_n 1, 1) := by decide +kernel
theorem dX4_ring_29 : decode cX4_ring 29 = .ok (.aaload, 1) := by decide +kernel
theorem dX4_ring_30 : decode cX4_ring 30 = .ok (.invokevirtual 78, 3) := by decide +kernel
theorem dX4_ring_33 : decode cX4_ring 33 = .ok (.goto 8, 3) := by decide +kernel
theorem dX4_ring_36 : decode cX4_ring 36 = .ok (.aload_n 0, 1) := by decide +kernel
theorem dX4_ring_37 : decode cX4_ring 37 = .ok (.aload_n 2, 1) := by decide +kernel
theorem dX4_ring_38 : decode cX4_ring 38 = .ok (.invokevirtual 81, 3) := by decide +kernel
theorem dX4_ring_41 : decode cX4_ring 41 = .ok (.ireturn, 1) := by decide +kernel
set_option maxRecDepth 20000 in
theorem ggX4_hum_X4_isHook : GoodIn wsX4_hum wsX4_isHook := goodIn_r _ [6, 7, 8, 5, 9] (by decide +kernel) (by decide +kernel)
set_option maxRecDepth 20000 in
theorem gX4_hum_X4_isHook : GoodIn wsX4_hum (va_wsS RX4 51 yX4_isHook wsX4_isHook) := goodIn_app (goodIn_of _ (by decide +kernel)) ggX4_hum_X4_isHook
set_option maxRecDepth 20000 in
theorem ggX4_hum_X4_greatBellOf : GoodIn wsX4_hum wsX4_greatBellOf := goodIn_r _ [12, 13] (by decide +kernel) (by decide +kernel)
set_option maxRecDepth 20000 in
theorem gX4_hum_X4_greatBellOf : GoodIn wsX4_hum (va_wsS RX4 85 yX4_greatBellOf wsX4_greatBellOf) := goodIn_app (goodIn_of _ (by decide +kernel)) ggX4_hum_X4_greatBellOf
set_option maxRecDepth 20000 in
theorem ggX4_hum_X4_tellWhyNot : GoodIn wsX4_hum wsX4_tellWhyNot := goodIn_r _ [17, 18, 19, 20, 5, 21, 22, 7, 8, 9, 23, 24, 25, 26, 27, 28, 29, 30, 31, 32, 33] (by decide +kernel) (by decide +kernel)
set_option maxRecDepth 20000 in
theorem gX4_hum_X4_tellWhyNot : GoodIn wsX4_hum (wsV RX4 78 RX4 yX4_tellWhyNot wsX4_tellWhyNot) := goodIn_app (goodIn_of _ (by decide +kernel)) ggX4_hum_X4_tellWhyNot
theorem dX4_hum_0 : decode cX4_hum 0 = .ok (.iload_n 1, 1) := by decide +kernel
theorem dX4_hum_1 : decode cX4_hum 1 = .ok (.invokestatic 51, 3) := by decide +kernel
theorem dX4_hum_4 : decode cX4_hum 4 = .ok (.ifCond .ne 5, 3) := by decide +kernel
theorem dX4_hum_7 : decode cX4_hum 7 = .ok (.iconst (-1), 1) := by decide +kernel
theorem dX4_hum_8 : decode cX4_hum 8 = .ok (.ireturn, 1) := by decide +kernel
theorem dX4_hum_9 : decode cX4_hum 9 = .ok (.aload_n 0, 1) := by decide +kernel
theorem dX4_hum_10 : decode cX4_hum 10 = .ok (.getfield 11, 3) := by decide +kernel
theorem dX4_hum_13 : decode cX4_hum 13 = .ok (.iload_n 1, 1) := by decide +kernel
theorem dX4_hum_14 : decode cX4_hum 14 = .ok (.aaload, 1) := by decide +kernel
theorem dX4_hum_15 : decode cX4_hum 15 = .ok (.invokestatic 85, 3) := by decide +kernel
theorem dX4_hum_18 : decode cX4_hum 18 = .ok (.astore_n 2, 1) := by decide +kernel
theorem dX4_hum_19 : decode cX4_hum 19 = .ok (.aload_n 2, 1) := by decide +kernel
theorem dX4_hum_20 : decode cX4_hum 20 = .ok (.ifnonnull 16, 3) := by decide +kernel
theorem dX4_hum_23 : decode cX4_hum 23 = .ok (.aload_n 0, 1) := by decide +kernel
theorem dX4_hum_24 : decode cX4_hum 24 = .ok (.aload_n 0, 1) := by decide +kernel
theorem dX4_hum_25 : decode cX4_hum 25 = .ok (.getfield 11, 3) := by decide +kernel
theorem dX4_hum_28 : decode cX4_hum 28 = .ok (.iload_n 1, 1) := by decide +kernel
theorem dX4_hum_29 : decode cX4_hum 29 = .ok (.aaload, 1) := by decide +kernel
theorem dX4_hum_30 : decode cX4_hum 30 = .ok (.invokevirtual 78, 3) := by decide +kernel
theorem dX4_hum_33 : decode cX4_hum 33 = .ok (.goto 7, 3) := by decide +kernel
theorem dX4_hum_36 : decode cX4_hum 36 = .ok (.aload_n 2, 1) := by decide +kernel
theorem dX4_hum_37 : decode cX4_hum 37 = .ok (.getfield 89, 3) := by decide +kernel
theorem dX4_hum_40 : decode cX4_hum 40 = .ok (.ireturn, 1) := by decide +kernel
set_option maxRecDepth 20000 in
theorem ggX4_tune_X4_isHook : GoodIn wsX4_tune wsX4_isHook := goodIn_r _ [6, 7, 8, 5, 9] (by decide +kernel) (by decide +kernel)
set_option maxRecDepth 20000 in
theorem gX4_tune_X4_isHook : GoodIn wsX4_tune (va_wsS RX4 51 yX4_isHook wsX4_isHook) := goodIn_app (goodIn_of _ (by decide +kernel)) ggX4_tune_X4_isHook
set_option maxRecDepth 20000 in
theorem ggX4_tune_X4_isWithin : GoodIn wsX4_tune wsX4_isWithin := goodIn_r _ [9] (by decide +kernel) (by decide +kernel)
set_option maxRecDepth 20000 in
theorem gX4_tune_X4_isWithin : GoodIn wsX4_tune (va_wsS RX4 55 yX4_isWithin wsX4_isWithin) := goodIn_app (goodIn_of _ (by decide +kernel)) ggX4_tune_X4_isWithin
set_option maxRecDepth 20000 in
theorem ggX4_tune_X4_greatBellOf : GoodIn wsX4_tune wsX4_greatBellOf := goodIn_r _ [12, 13] (by decide +kernel) (by decide +kernel)
set_option maxRecDepth 20000 in
theorem gX4_tune_X4_greatBellOf : GoodIn wsX4_tune (va_wsS RX4 85 yX4_greatBellOf wsX4_greatBellOf) := goodIn_app (goodIn_of _ (by decide +kernel)) ggX4_tune_X4_greatBellOf
set_option maxRecDepth 20000 in
theorem ggX4_tune_X4_tellWhyNot : GoodIn wsX4_tune wsX4_tellWhyNot := goodIn_r _ [17, 18, 19, 20, 5, 21, 22, 7, 8, 9, 23, 24, 25, 26, 27, 28, 29, 30, 31, 32, 33] (by decide +kernel) (by decide +kernel)
set_option maxRecDepth 20000 in
theorem gX4_tune_X4_tellWhyNot : GoodIn wsX4_tune (wsV RX4 78 RX4 yX4_tellWhyNot wsX4_tellWhyNot) := goodIn_app (goodIn_of _ (by decide +kernel)) ggX4_tune_X4_tellWhyNot
theorem dX4_tune_0 : decode cX4_tune 0 = .ok (.iload_n 1, 1) := by decide +kernel
theorem dX4_tune_1 : decode cX4_tune 1 = .ok (.invokestatic 51, 3) := by decide +kernel
theorem dX4_tune_4 : decode cX4_tune 4 = .ok (.ifCond .eq 14, 3) := by decide +kernel
theorem dX4_tune_7 : decode cX4_tune 7 = .ok (.iload_n 2, 1) := by decide +kernel
theorem dX4_tune_8 : decode cX4_tune 8 = .ok (.iconst 0, 1) := by decide +kernel
theorem dX4_tune_9 : decode cX4_tune 9 = .ok (.sipush 1000, 3) := by decide +kernel
theorem dX4_tune_12 : decode cX4_tune 12 = .ok (.invokestatic 55, 3) := by decide +kernel
theorem dX4_tune_15 : decode cX4_tune 15 = .ok (.ifCond .ne 5, 3) := by decide +kernel
theorem dX4_tune_18 : decode cX4_tune 18 = .ok (.iconst (-1), 1) := by decide +kernel
theorem dX4_tune_19 : decode cX4_tune 19 = .ok (.ireturn, 1) := by decide +kernel
theorem dX4_tune_20 : decode cX4_tune 20 = .ok (.aload_n 0, 1) := by decide +kernel
theorem dX4_tune_21 : decode cX4_tune 21 = .ok (.getfield 11, 3) := by decide +kernel
theorem dX4_tune_24 : decode cX4_tune 24 = .ok (.iload_n 1, 1) := by decide +kernel
theorem dX4_tune_25 : decode cX4_tune 25 = .ok (.aaload, 1) := by decide +kernel
theorem dX4_tune_26 : decode cX4_tune 26 = .ok (.invokestatic 85, 3) := by decide +kernel
theorem dX4_tune_29 : decode cX4_tune 29 = .ok (.astore_n 3, 1) := by decide +kernel
theorem dX4_tune_30 : decode cX4_tune 30 = .ok (.aload_n 3, 1) := by decide +kernel
theorem dX4_tune_31 : decode cX4_tune 31 = .ok (.ifnonnull 14, 3) := by decide +kernel
theorem dX4_tune_34 : decode cX4_tune 34 = .ok (.aload_n 0, 1) := by decide +kernel
theorem dX4_tune_35 : decode cX4_tune 35 = .ok (.aload_n 0, 1) := by decide +kernel
theorem dX4_tune_36 : decode cX4_tune 36 = .ok (.getfield 11, 3) := by decide +kernel
theorem dX4_tune_39 : decode cX4_tune 39 = .ok (.iload_n 1, 1) := by decide +kernel
theorem dX4_tune_40 : decode cX4_tune 40 = .ok (.aaload, 1) := by decide +kernel
theorem dX4_tune_41 : decode cX4_tune 41 = .ok (.invokevirtual 78, 3) := by decide +kernel
theorem dX4_tune_44 : decode cX4_tune 44 = .ok (.ireturn, 1) := by decide +kernel
theorem dX4_tune_45 : decode cX4_tune 45 = .ok (.aload_n 3, 1) := by decide +kernel
theorem dX4_tune_46 : decode cX4_tune 46 = .ok (.iload_n 2, 1) := by decide +kernel
theorem dX4_tune_47 : decode cX4_tune 47 = .ok (.putfield 89, 3) := by decide +kernel
theorem dX4_tune_50 : decode cX4_tune 50 = .ok (.iload_n 2, 1) := by decide +kernel
theorem dX4_tune_51 : decode cX4_tune 51 = .ok (.ireturn, 1) := by decide +kernel
set_option maxRecDepth 20000 in
theorem ggX4_fit_X4_isHook : GoodIn wsX4_fit wsX4_isHook := goodIn_r _ [8, 9, 10, 7, 11] (by decide +kernel) (by decide +kernel)
set_option maxRecDepth 20000 in
theorem gX4_fit_X4_isHook : GoodIn wsX4_fit (va_wsS RX4 51 yX4_isHook wsX4_isHook) := goodIn_app (goodIn_of _ (by decide +kernel)) ggX4_fit_X4_isHook
set_option maxRecDepth 20000 in
theorem ggX4_fit_X4_tell : GoodIn wsX4_fit wsX4_tell := goodIn_r _ [15, 16, 9, 10, 7, 11, 23, 24, 25, 26, 27, 28, 29, 30, 31, 32, 33] (by decide +kernel) (by decide +kernel)
set_option maxRecDepth 20000 in
theorem gX4_fit_X4_tell : GoodIn wsX4_fit (wsV RX4 67 RX4 yX4_tell wsX4_tell) := goodIn_app (goodIn_of _ (by decide +kernel)) ggX4_fit_X4_tell
set_option maxRecDepth 20000 in
theorem ggX4_fit_X4_bellOf : GoodIn wsX4_fit wsX4_bellOf := goodIn_r _ [19, 3] (by decide +kernel) (by decide +kernel)
set_option maxRecDepth 20000 in
theorem gX4_fit_X4_bellOf : GoodIn wsX4_fit (va_wsS RX4 74 yX4_bellOf wsX4_bellOf) := goodIn_app (goodIn_of _ (by decide +kernel)) ggX4_fit_X4_bellOf
set_option maxRecDepth 20000 in
theorem ggX4_fit_X4_clapperOf : GoodIn wsX4_fit wsX4_clapperOf := goodIn_r _ [22, 2] (by decide +kernel) (by decide +kernel)
set_option maxRecDepth 20000 in
theorem gX4_fit_X4_clapperOf : GoodIn wsX4_fit (va_wsS RX4 96 yX4_clapperOf wsX4_clapperOf) := goodIn_app (goodIn_of _ (by decide +kernel)) ggX4_fit_X4_clapperOf
theorem dX4_fit_0 : decode cX4_fit 0 = .ok (.iload_n 1, 1) := by decide +kernel
theorem dX4_fit_1 : decode cX4_fit 1 = .ok (.invokestatic 51, 3) := by decide +kernel
theorem dX4_fit_4 : decode cX4_fit 4 = .ok (.ifCond .eq 10, 3) := by decide +kernel
theorem dX4_fit_7 : decode cX4_fit 7 = .ok (.iload_n 2, 1) := by decide +kernel
theorem dX4_fit_8 : decode cX4_fit 8 = .ok (.invokestatic 51, 3) := by decide +kernel
theorem dX4_fit_11 : decode cX4_fit 11 = .ok (.ifCond .ne 5, 3) := by decide +kernel
theorem dX4_fit_14 : decode cX4_fit 14 = .ok (.iconst (-1), 1) := by decide +kernel
theorem dX4_fit_15 : decode cX4_fit 15 = .ok (.ireturn, 1) := by decide +kernel
theorem dX4_fit_16 : decode cX4_fit 16 = .ok (.aload_n 0, 1) := by decide +kernel
theorem dX4_fit_17 : decode cX4_fit 17 = .ok (.getfield 11, 3) := by decide +kernel
theorem dX4_fit_20 : decode cX4_fit 20 = .ok (.iload_n 1, 1) := by decide +kernel
theorem dX4_fit_21 : decode cX4_fit 21 = .ok (.aaload, 1) := by decide +kernel
theorem dX4_fit_22 : decode cX4_fit 22 = .ok (.instanceof 94, 3) := by decide +kernel
theorem dX4_fit_25 : decode cX4_fit 25 = .ok (.ifCond .ne 15, 3) := by decide +kernel
theorem dX4_fit_28 : decode cX4_fit 28 = .ok (.aload_n 0, 1) := by decide +kernel
theorem dX4_fit_29 : decode cX4_fit 29 = .ok (.getfield 11, 3) := by decide +kernel
theorem dX4_fit_32 : decode cX4_fit 32 = .ok (.iload_n 2, 1) := by decide +kernel
theorem dX4_fit_33 : decode cX4_fit 33 = .ok (.aaload, 1) := by decide +kernel
theorem dX4_fit_34 : decode cX4_fit 34 = .ok (.instanceof 15, 3) := by decide +kernel
theorem dX4_fit_37 : decode cX4_fit 37 = .ok (.ifCond .eq 9, 3) := by decide +kernel
theorem dX4_fit_40 : decode cX4_fit 40 = .ok (.aload_n 0, 1) := by decide +kernel
theorem dX4_fit_41 : decode cX4_fit 41 = .ok (.iconst 2, 1) := by decide +kernel
theorem dX4_fit_42 : decode cX4_fit 42 = .ok (.invokevirtual 67, 3) := by decide +kernel
theorem dX4_fit_45 : decode cX4_fit 45 = .ok (.ireturn, 1) := by decide +kernel
theorem dX4_fit_46 : decode cX4_fit 46 = .ok (.aload_n 0, 1) := by decide +kernel
theorem dX4_fit_47 : decode cX4_fit 47 = .ok (.getfield 11, 3) := by decide +kernel
theorem dX4_fit_50 : decode cX4_fit 50 = .ok (.iload_n 1, 1) := by decide +kernel
theorem dX4_fit_51 : decode cX4_fit 51 = .ok (.aaload, 1) := by decide +kernel
theorem dX4_fit_52 : decode cX4_fit 52 = .ok (.invokestatic 74, 3) := by decide +kernel
theorem dX4_fit_55 : decode cX4_fit 55 = .ok (.astore_n 3, 1) := by decide +kernel
theorem dX4_fit_56 : decode cX4_fit 56 = .ok (.aload_n 3, 1) := by decide +kernel
theorem dX4_fit_57 : decode cX4_fit 57 = .ok (.ifnonnull 9, 3) := by decide +kernel
theorem dX4_fit_60 : decode cX4_fit 60 = .ok (.aload_n 0, 1) := by decide +kernel
theorem dX4_fit_61 : decode cX4_fit 61 = .ok (.iconst 1, 1) := by decide +kernel
theorem dX4_fit_62 : decode cX4_fit 62 = .ok (.invokevirtual 67, 3) := by decide +kernel
theorem dX4_fit_65 : decode cX4_fit 65 = .ok (.ireturn, 1) := by decide +kernel
theorem dX4_fit_66 : decode cX4_fit 66 = .ok (.aload_n 3, 1) := by decide +kernel
theorem dX4_fit_67 : decode cX4_fit 67 = .ok (.aload_n 0, 1) := by decide +kernel
theorem dX4_fit_68 : decode cX4_fit 68 = .ok (.getfield 11, 3) := by decide +kernel
theorem dX4_fit_71 : decode cX4_fit 71 = .ok (.iload_n 2, 1) := by decide +kernel
theorem dX4_fit_72 : decode cX4_fit 72 = .ok (.aaload, 1) := by decide +kernel
theorem dX4_fit_73 : decode cX4_fit 73 = .ok (.invokestatic 96, 3) := by decide +kernel
theorem dX4_fit_76 : decode cX4_fit 76 = .ok (.putfield 100, 3) := by decide +kernel
theorem dX4_fit_79 : decode cX4_fit 79 = .ok (.aload_n 0, 1) := by decide +kernel
theorem dX4_fit_80 : decode cX4_fit 80 = .ok (.getfield 11, 3) := by decide +kernel
theorem dX4_fit_83 : decode cX4_fit 83 = .ok (.iload_n 2, 1) := by decide +kernel
theorem dX4_fit_84 : decode cX4_fit 84 = .ok (.aconst_null, 1) := by decide +kernel
theorem dX4_fit_85 : decode cX4_fit 85 = .ok (.aastore, 1) := by decide +kernel
theorem dX4_fit_86 : decode cX4_fit 86 = .ok (.aload_n 3, 1) := by decide +kernel
theorem dX4_fit_87 : decode cX4_fit 87 = .ok (.getfield 100, 3) := by decide +kernel
theorem dX4_fit_90 : decode cX4_fit 90 = .ok (.ifnonnull 7, 3) := by decide +kernel
theorem dX4_fit_93 : decode cX4_fit 93 = .ok (.iconst 0, 1) := by decide +kernel
theorem dX4_fit_94 : decode cX4_fit 94 = .ok (.goto 4, 3) := by decide +kernel
theorem dX4_fit_97 : decode cX4_fit 97 = .ok (.iconst 1, 1) := by decide +kernel
theorem dX4_fit_98 : decode cX4_fit 98 = .ok (.ireturn, 1) := by decide +kernel
set_option maxRecDepth 20000 in
theorem ggX4_alarm_X4_isHook : GoodIn wsX4_alarm wsX4_isHook := goodIn_r _ [6, 7, 8, 5, 9] (by decide +kernel) (by decide +kernel)
set_option maxRecDepth 20000 in
theorem gX4_alarm_X4_isHook : GoodIn wsX4_alarm (va_wsS RX4 51 yX4_isHook wsX4_isHook) := goodIn_app (goodIn_of _ (by decide +kernel)) ggX4_alarm_X4_isHook
set_option maxRecDepth 20000 in
theorem ggX4_alarm_X4_isWithin : GoodIn wsX4_alarm wsX4_isWithin := goodIn_r _ [9] (by decide +kernel) (by decide +kernel)
set_option maxRecDepth 20000 in
theorem gX4_alarm_X4_isWithin : GoodIn wsX4_alarm (va_wsS RX4 55 yX4_isWithin wsX4_isWithin) := goodIn_app (goodIn_of _ (by decide +kernel)) ggX4_alarm_X4_isWithin
set_option maxRecDepth 20000 in
theorem ggX4_alarm_X4_bellOf : GoodIn wsX4_alarm wsX4_bellOf := goodIn_r _ [12, 13] (by decide +kernel) (by decide +kernel)
set_option maxRecDepth 20000 in
theorem gX4_alarm_X4_bellOf : GoodIn wsX4_alarm (va_wsS RX4 74 yX4_bellOf wsX4_bellOf) := goodIn_app (goodIn_of _ (by decide +kernel)) ggX4_alarm_X4_bellOf
set_option maxRecDepth 20000 in
theorem ggX4_alarm_X4_tellWhyNot : GoodIn wsX4_alarm wsX4_tellWhyNot := goodIn_r _ [17, 18, 19, 20, 5, 21, 22, 7, 8, 9, 23, 24, 25, 26, 27, 28, 29, 30, 31, 32, 33] (by decide +kernel) (by decide +kernel)
set_option maxRecDepth 20000 in
theorem gX4_alarm_X4_tellWhyNot : GoodIn wsX4_alarm (wsV RX4 78 RX4 yX4_tellWhyNot wsX4_tellWhyNot) := goodIn_app (goodIn_of _ (by decide +kernel)) ggX4_alarm_X4_tellWhyNot
theorem dX4_alarm_0 : decode cX4_alarm 0 = .ok (.iload_n 1, 1) := by decide +kernel
theorem dX4_alarm_1 : decode cX4_alarm 1 = .ok (.invokestatic 51, 3) := by decide +kernel
theorem dX4_alarm_4 : decode cX4_alarm 4 = .ok (.ifCond .eq 13, 3) := by decide +kernel
theorem dX4_alarm_7 : decode cX4_alarm 7 = .ok (.iload_n 2, 1) := by decide +kernel
theorem dX4_alarm_8 : decode cX4_alarm 8 = .ok (.iconst 0, 1) := by decide +kernel
theorem dX4_alarm_9 : decode cX4_alarm 9 = .ok (.bipush 9, 2) := by decide +kernel
theorem dX4_alarm_11 : decode cX4_alarm 11 = .ok (.invokestatic 55, 3) := by decide +kernel
theorem dX4_alarm_14 : decode cX4_alarm 14 = .ok (.ifCond .ne 5, 3) := by decide +kernel
theorem dX4_alarm_17 : decode cX4_alarm 17 = .ok (.iconst (-1), 1) := by decide +kernel
theorem dX4_alarm_18 : decode cX4_alarm 18 = .ok (.ireturn, 1) := by decide +kernel
theorem dX4_alarm_19 : decode cX4_alarm 19 = .ok (.aload_n 0, 1) := by decide +kernel
theorem dX4_alarm_20 : decode cX4_alarm 20 = .ok (.getfield 11, 3) := by decide +kernel
theorem dX4_alarm_23 : decode cX4_alarm 23 = .ok (.iload_n 1, 1) := by decide +kernel
theorem dX4_alarm_24 : decode cX4_alarm 24 = .ok (.aaload, 1) := by decide +kernel
theorem dX4_alarm_25 : decode cX4_alarm 25 = .ok (.invokestatic 74, 3) := by decide +kernel
theorem dX4_alarm_28 : decode cX4_alarm 28 = .ok (.astore_n 3, 1) := by decide +kernel
theorem dX4_alarm_29 : decode cX4_alarm 29 = .ok (.aload_n 3, 1) := by decide +kernel
theorem dX4_alarm_30 : decode cX4_alarm 30 = .ok (.ifnonnull 14, 3) := by decide +kernel
theorem dX4_alarm_33 : decode cX4_alarm 33 = .ok (.aload_n 0, 1) := by decide +kernel
theorem dX4_alarm_34 : decode cX4_alarm 34 = .ok (.aload_n 0, 1) := by decide +kernel
theorem dX4_alarm_35 : decode cX4_alarm 35 = .ok (.getfield 11, 3) := by decide +kernel
theorem dX4_alarm_38 : decode cX4_alarm 38 = .ok (.iload_n 1, 1) := by decide +kernel
theorem dX4_alarm_39 : decode cX4_alarm 39 = .ok (.aaload, 1) := by decide +kernel
theorem dX4_alarm_40 : decode cX4_alarm 40 = .ok (.invokevirtual 78, 3) := by decide +kernel
theorem dX4_alarm_43 : decode cX4_alarm 43 = .ok (.ireturn, 1) := by decide +kernel
theorem dX4_alarm_44 : decode cX4_alarm 44 = .ok (.aload_n 3, 1) := by decide +kernel
theorem dX4_alarm_45 : decode cX4_alarm 45 = .ok (.getfield 104, 3) := by decide +kernel
theorem dX4_alarm_48 : decode cX4_alarm 48 = .ok (.istore 4, 2) := by decide +kernel
theorem dX4_alarm_50 : decode cX4_alarm 50 = .ok (.aload_n 3, 1) := by decide +kernel
theorem dX4_alarm_51 : decode cX4_alarm 51 = .ok (.iload_n 2, 1) := by decide +kernel
theorem dX4_alarm_52 : decode cX4_alarm 52 = .ok (.putfield 104, 3) := by decide +kernel
theorem dX4_alarm_55 : decode cX4_alarm 55 = .ok (.iload 4, 2) := by decide +kernel
theorem dX4_alarm_57 : decode cX4_alarm 57 = .ok (.ireturn, 1) := by decide +kernel
set_option maxRecDepth 20000 in
theorem ggX4_raise_X4_isHook : GoodIn wsX4_raise wsX4_isHook := goodIn_r _ [5, 6, 7, 4, 8] (by decide +kernel) (by decide +kernel)
set_option maxRecDepth 20000 in
theorem gX4_raise_X4_isHook : GoodIn wsX4_raise (va_wsS RX4 51 yX4_isHook wsX4_isHook) := goodIn_app (goodIn_of _ (by decide +kernel)) ggX4_raise_X4_isHook
set_option maxRecDepth 20000 in
theorem ggX4_raise_X4_bellOf : GoodIn wsX4_raise wsX4_bellOf := goodIn_r _ [11, 12] (by decide +kernel) (by decide +kernel)
set_option maxRecDepth 20000 in
theorem gX4_raise_X4_bellOf : GoodIn wsX4_raise (va_wsS RX4 74 yX4_bellOf wsX4_bellOf) := goodIn_app (goodIn_of _ (by decide +kernel)) ggX4_raise_X4_bellOf
set_option maxRecDepth 20000 in
theorem ggX4_raise_X4_tellWhyNot : GoodIn wsX4_raise wsX4_tellWhyNot := goodIn_r _ [16, 17, 18, 19, 4, 20, 21, 6, 7, 8, 28, 29, 30, 31, 32, 33, 34, 35, 36, 37, 38] (by decide +kernel) (by decide +kernel)
set_option maxRecDepth 20000 in
theorem gX4_raise_X4_tellWhyNot : GoodIn wsX4_raise (wsV RX4 78 RX4 yX4_tellWhyNot wsX4_tellWhyNot) := goodIn_app (goodIn_of _ (by decide +kernel)) ggX4_raise_X4_tellWhyNot
set_option maxRecDepth 20000 in
theorem ggX4_raise_X4_goOff : GoodIn wsX4_raise wsX4_goOff := goodIn_r _ [25, 26, 27, 17, 18, 19, 4, 20, 21, 6, 7, 8, 39, 40, 41, 42, 43, 44, 45, 46, 47, 28, 29, 30, 31, 32, 33, 34, 35, 36, 37, 38] (by decide +kernel) (by decide +kernel)
set_option maxRecDepth 20000 in
theorem gX4_raise_X4_goOff : GoodIn wsX4_raise (wsV RX4 107 RX4 yX4_goOff wsX4_goOff) := goodIn_app (goodIn_of _ (by decide +kernel)) ggX4_raise_X4_goOff
theorem dX4_raise_0 : decode cX4_raise 0 = .ok (.iload_n 1, 1) := by decide +kernel
theorem dX4_raise_1 : decode cX4_raise 1 = .ok (.invokestatic 51, 3) := by decide +kernel
theorem dX4_raise_4 : decode cX4_raise 4 = .ok (.ifCond .ne 5, 3) := by decide +kernel
theorem dX4_raise_7 : decode cX4_raise 7 = .ok (.iconst (-1), 1) := by decide +kernel
theorem dX4_raise_8 : decode cX4_raise 8 = .ok (.ireturn, 1) := by decide +kernel
theorem dX4_raise_9 : decode cX4_raise 9 = .ok (.aload_n 0, 1) := by decide +kernel
theorem dX4_raise_10 : decode cX4_raise 10 = .ok (.getfield 11, 3) := by decide +kernel
theorem dX4_raise_13 : decode cX4_raise 13 = .ok (.iload_n 1, 1) := by decide +kernel
theorem dX4_raise_14 : decode cX4_raise 14 = .ok (.aaload, 1) := by decide +kernel
theorem dX4_raise_15 : decode cX4_raise 15 = .ok (.invokestatic 74, 3) := by decide +kernel
theorem dX4_raise_18 : decode cX4_raise 18 = .ok (.astore_n 2, 1) := by decide +kernel
theorem dX4_raise_19 : decode cX4_raise 19 = .ok (.aload_n 2, 1) := by decide +kernel
theorem dX4_raise_20 : decode cX4_raise 20 = .ok (.ifnonnull 16, 3) := by decide +kernel
theorem dX4_raise_23 : decode cX4_raise 23 = .ok (.aload_n 0, 1) := by decide +kernel
theorem dX4_raise_24 : decode cX4_raise 24 = .ok (.aload_n 0, 1) := by decide +kernel
theorem dX4_raise_25 : decode cX4_raise 25 = .ok (.getfield 11, 3) := by decide +kernel
theorem dX4_raise_28 : decode cX4_raise 28 = .ok (.iload_n 1, 1) := by decide +kernel
theorem dX4_raise_29 : decode cX4_raise 29 = .ok (.aaload, 1) := by decide +kernel
theorem dX4_raise_30 : decode cX4_raise 30 = .ok (.invokevirtual 78, 3) := by decide +kernel
theorem dX4_raise_33 : decode cX4_raise 33 = .ok (.goto 8, 3) := by decide +kernel
theorem dX4_raise_36 : decode cX4_raise 36 = .ok (.aload_n 0, 1) := by decide +kernel
theorem dX4_raise_37 : decode cX4_raise 37 = .ok (.aload_n 2, 1) := by decide +kernel
theorem dX4_raise_38 : decode cX4_raise 38 = .ok (.invokevirtual 107, 3) := by decide +kernel
theorem dX4_raise_41 : decode cX4_raise 41 = .ok (.ireturn, 1) := by decide +kernel
theorem dX4_level_0 : decode cX4_level 0 = .ok (.aload_n 0, 1) := by decide +kernel
theorem dX4_level_1 : decode cX4_level 1 = .ok (.getfield 48, 3) := by decide +kernel
theorem dX4_level_4 : decode cX4_level 4 = .ok (.ireturn, 1) := by decide +kernel
set_option maxRecDepth 20000 in
theorem ggX4_frame_X4_tell : GoodIn wsX4_frame wsX4_tell := goodIn_r _ [7, 8, 9, 10, 6, 11, 17, 18, 19, 20, 21, 22, 23, 24, 25, 26, 27] (by decide +kernel) (by decide +kernel)
set_option maxRecDepth 20000 in
theorem gX4_frame_X4_tell : GoodIn wsX4_frame (wsV RX4 67 RX4 yX4_tell wsX4_tell) := goodIn_app (goodIn_of _ (by decide +kernel)) ggX4_frame_X4_tell
set_option maxRecDepth 20000 in
theorem ggX4_frame_X4_clearPlaces : GoodIn wsX4_frame wsX4_clearPlaces := goodIn_r _ [15, 16, 17, 18, 19, 20, 21, 22, 23, 24, 25, 26, 27] (by decide +kernel) (by decide +kernel)
set_option maxRecDepth 20000 in
theorem gX4_frame_X4_clearPlaces : GoodIn wsX4_frame (wsV RX4 110 RX4 yX4_clearPlaces wsX4_clearPlaces) := goodIn_app (goodIn_of _ (by decide +kernel)) ggX4_frame_X4_clearPlaces
theorem dX4_frame_0 : decode cX4_frame 0 = .ok (.iload_n 1, 1) := by decide +kernel
theorem dX4_frame_1 : decode cX4_frame 1 = .ok (.bipush 12, 2) := by decide +kernel
theorem dX4_frame_3 : decode cX4_frame 3 = .ok (.if_icmp .le 5, 3) := by decide +kernel
theorem dX4_frame_6 : decode cX4_frame 6 = .ok (.iconst (-1), 1) := by decide +kernel
theorem dX4_frame_7 : decode cX4_frame 7 = .ok (.ireturn, 1) := by decide +kernel
theorem dX4_frame_8 : decode cX4_frame 8 = .ok (.iload_n 1, 1) := by decide +kernel
theorem dX4_frame_9 : decode cX4_frame 9 = .ok (.ifCond .ge 9, 3) := by decide +kernel
theorem dX4_frame_12 : decode cX4_frame 12 = .ok (.aload_n 0, 1) := by decide +kernel
theorem dX4_frame_13 : decode cX4_frame 13 = .ok (.iconst 4, 1) := by decide +kernel
theorem dX4_frame_14 : decode cX4_frame 14 = .ok (.invokevirtual 67, 3) := by decide +kernel
theorem dX4_frame_17 : decode cX4_frame 17 = .ok (.ireturn, 1) := by decide +kernel
theorem dX4_frame_18 : decode cX4_frame 18 = .ok (.aload_n 0, 1) := by decide +kernel
theorem dX4_frame_19 : decode cX4_frame 19 = .ok (.invokevirtual 110, 3) := by decide +kernel
theorem dX4_frame_22 : decode cX4_frame 22 = .ok (.aload_n 0, 1) := by decide +kernel
theorem dX4_frame_23 : decode cX4_frame 23 = .ok (.iload_n 1, 1) := by decide +kernel
theorem dX4_frame_24 : decode cX4_frame 24 = .ok (.putfield 21, 3) := by decide +kernel
theorem dX4_frame_27 : decode cX4_frame 27 = .ok (.aload_n 0, 1) := by decide +kernel
theorem dX4_frame_28 : decode cX4_frame 28 = .ok (.iload_n 2, 1) := by decide +kernel
theorem dX4_frame_29 : decode cX4_frame 29 = .ok (.putfield 25, 3) := by decide +kernel
theorem dX4_frame_32 : decode cX4_frame 32 = .ok (.iload_n 1, 1) := by decide +kernel
theorem dX4_frame_33 : decode cX4_frame 33 = .ok (.ireturn, 1) := by decide +kernel
set_option maxRecDepth 20000 in
theorem ggX4_size_X4_tell : GoodIn wsX4_size wsX4_tell := goodIn_r _ [6, 7, 8, 9, 5, 10, 11, 12, 13, 14, 15, 16, 17, 18, 19, 20, 21] (by decide +kernel) (by decide +kernel)
set_option maxRecDepth 20000 in
theorem gX4_size_X4_tell : GoodIn wsX4_size (wsV RX4 67 RX4 yX4_tell wsX4_tell) := goodIn_app (goodIn_of _ (by decide +kernel)) ggX4_size_X4_tell
theorem dX4_size_0 : decode cX4_size 0 = .ok (.aload_n 0, 1) := by decide +kernel
theorem dX4_size_1 : decode cX4_size 1 = .ok (.getfield 21, 3) := by decide +kernel
theorem dX4_size_4 : decode cX4_size 4 = .ok (.iconst (-1), 1) := by decide +kernel
theorem dX4_size_5 : decode cX4_size 5 = .ok (.if_icmp .ne 11, 3) := by decide +kernel
theorem dX4_size_8 : decode cX4_size 8 = .ok (.aload_n 0, 1) := by decide +kernel
theorem dX4_size_9 : decode cX4_size 9 = .ok (.iconst 1, 1) := by decide +kernel
theorem dX4_size_10 : decode cX4_size 10 = .ok (.invokevirtual 67, 3) := by decide +kernel
theorem dX4_size_13 : decode cX4_size 13 = .ok (.goto 7, 3) := by decide +kernel
theorem dX4_size_16 : decode cX4_size 16 = .ok (.aload_n 0, 1) := by decide +kernel
theorem dX4_size_17 : decode cX4_size 17 = .ok (.getfield 21, 3) := by decide +kernel
theorem dX4_size_20 : decode cX4_size 20 = .ok (.ireturn, 1) := by decide +kernel
set_option maxRecDepth 20000 in
theorem ggX4_lay_X4_isHook : GoodIn wsX4_lay wsX4_isHook := goodIn_r _ [9, 10, 11, 8, 12] (by decide +kernel) (by decide +kernel)
set_option maxRecDepth 20000 in
theorem gX4_lay_X4_isHook : GoodIn wsX4_lay (va_wsS RX4 51 yX4_isHook wsX4_isHook) := goodIn_app (goodIn_of _ (by decide +kernel)) ggX4_lay_X4_isHook
set_option maxRecDepth 20000 in
theorem ggX4_lay_X4_tell : GoodIn wsX4_lay wsX4_tell := goodIn_r _ [16, 17, 10, 11, 8, 12, 30, 31, 32, 33, 34, 35, 36, 37, 38, 39, 40] (by decide +kernel) (by decide +kernel)
set_option maxRecDepth 20000 in
theorem gX4_lay_X4_tell : GoodIn wsX4_lay (wsV RX4 67 RX4 yX4_tell wsX4_tell) := goodIn_app (goodIn_of _ (by decide +kernel)) ggX4_lay_X4_tell
set_option maxRecDepth 20000 in
theorem ggX4_lay_X4_isPlace : GoodIn wsX4_lay wsX4_isPlace := goodIn_r _ [21, 3, 5, 30, 31, 32, 33, 34, 35, 36, 37, 38, 39, 40] (by decide +kernel) (by decide +kernel)
set_option maxRecDepth 20000 in
theorem gX4_lay_X4_isPlace : GoodIn wsX4_lay (wsV RX4 113 RX4 yX4_isPlace wsX4_isPlace) := goodIn_app (goodIn_of _ (by decide +kernel)) ggX4_lay_X4_isPlace
set_option maxRecDepth 20000 in
theorem ggX4_lay_X4_bellOf : GoodIn wsX4_lay wsX4_bellOf := goodIn_r _ [24, 25] (by decide +kernel) (by decide +kernel)
set_option maxRecDepth 20000 in
theorem gX4_lay_X4_bellOf : GoodIn wsX4_lay (va_wsS RX4 74 yX4_bellOf wsX4_bellOf) := goodIn_app (goodIn_of _ (by decide +kernel)) ggX4_lay_X4_bellOf
set_option maxRecDepth 20000 in
theorem ggX4_lay_X4_greatBellOf : GoodIn wsX4_lay wsX4_greatBellOf := goodIn_r _ [28, 29] (by decide +kernel) (by decide +kernel)
set_option maxRecDepth 20000 in
theorem gX4_lay_X4_greatBellOf : GoodIn wsX4_lay (va_wsS RX4 85 yX4_greatBellOf wsX4_greatBellOf) := goodIn_app (goodIn_of _ (by decide +kernel)) ggX4_lay_X4_greatBellOf
theorem dX4_lay_0 : decode cX4_lay 0 = .ok (.iload_n 2, 1) := by decide +kernel
theorem dX4_lay_1 : decode cX4_lay 1 = .ok (.invokestatic 51, 3) := by decide +kernel
theorem dX4_lay_4 : decode cX4_lay 4 = .ok (.ifCond .ne 5, 3) := by decide +kernel
theorem dX4_lay_7 : decode cX4_lay 7 = .ok (.iconst (-1), 1) := by decide +kernel
theorem dX4_lay_8 : decode cX4_lay 8 = .ok (.ireturn, 1) := by decide +kernel
theorem dX4_lay_9 : decode cX4_lay 9 = .ok (.aload_n 0, 1) := by decide +kernel
theorem dX4_lay_10 : decode cX4_lay 10 = .ok (.getfield 11, 3) := by decide +kernel
theorem dX4_lay_13 : decode cX4_lay 13 = .ok (.iload_n 2, 1) := by decide +kernel
theorem dX4_lay_14 : decode cX4_lay 14 = .ok (.aaload, 1) := by decide +kernel
theorem dX4_lay_15 : decode cX4_lay 15 = .ok (.instanceof 94, 3) := by decide +kernel
theorem dX4_lay_18 : decode cX4_lay 18 = .ok (.ifCond .eq 9, 3) := by decide +kernel
theorem dX4_lay_21 : decode cX4_lay 21 = .ok (.aload_n 0, 1) := by decide +kernel
theorem dX4_lay_22 : decode cX4_lay 22 = .ok (.iconst 2, 1) := by decide +kernel
theorem dX4_lay_23 : decode cX4_lay 23 = .ok (.invokevirtual 67, 3) := by decide +kernel
theorem dX4_lay_26 : decode cX4_lay 26 = .ok (.ireturn, 1) := by decide +kernel
theorem dX4_lay_27 : decode cX4_lay 27 = .ok (.aload_n 0, 1) := by decide +kernel
theorem dX4_lay_28 : decode cX4_lay 28 = .ok (.getfield 21, 3) := by decide +kernel
theorem dX4_lay_31 : decode cX4_lay 31 = .ok (.iconst (-1), 1) := by decide +kernel
theorem dX4_lay_32 : decode cX4_lay 32 = .ok (.if_icmp .ne 9, 3) := by decide +kernel
theorem dX4_lay_35 : decode cX4_lay 35 = .ok (.aload_n 0, 1) := by decide +kernel
theorem dX4_lay_36 : decode cX4_lay 36 = .ok (.iconst 1, 1) := by decide +kernel
theorem dX4_lay_37 : decode cX4_lay 37 = .ok (.invokevirtual 67, 3) := by decide +kernel
theorem dX4_lay_40 : decode cX4_lay 40 = .ok (.ireturn, 1) := by decide +kernel
theorem dX4_lay_41 : decode cX4_lay 41 = .ok (.aload_n 0, 1) := by decide +kernel
theorem dX4_lay_42 : decode cX4_lay 42 = .ok (.iload_n 1, 1) := by decide +kernel
theorem dX4_lay_43 : decode cX4_lay 43 = .ok (.invokevirtual 113, 3) := by decide +kernel
theorem dX4_lay_46 : decode cX4_lay 46 = .ok (.ifCond .ne 9, 3) := by decide +kernel
theorem dX4_lay_49 : decode cX4_lay 49 = .ok (.aload_n 0, 1) := by decide +kernel
theorem dX4_lay_50 : decode cX4_lay 50 = .ok (.iconst 5, 1) := by decide +kernel
theorem dX4_lay_51 : decode cX4_lay 51 = .ok (.invokevirtual 67, 3) := by decide +kernel
theorem dX4_lay_54 : decode cX4_lay 54 = .ok (.ireturn, 1) := by decide +kernel
theorem dX4_lay_55 : decode cX4_lay 55 = .ok (.aload_n 0, 1) := by decide +kernel
theorem dX4_lay_56 : decode cX4_lay 56 = .ok (.getfield 11, 3) := by decide +kernel
theorem dX4_lay_59 : decode cX4_lay 59 = .ok (.iload_n 2, 1) := by decide +kernel
theorem dX4_lay_60 : decode cX4_lay 60 = .ok (.aaload, 1) := by decide +kernel
theorem dX4_lay_61 : decode cX4_lay 61 = .ok (.invokestatic 74, 3) := by decide +kernel
theorem dX4_lay_64 : decode cX4_lay 64 = .ok (.astore_n 3, 1) := by decide +kernel
theorem dX4_lay_65 : decode cX4_lay 65 = .ok (.aload_n 0, 1) := by decide +kernel
theorem dX4_lay_66 : decode cX4_lay 66 = .ok (.getfield 25, 3) := by decide +kernel
theorem dX4_lay_69 : decode cX4_lay 69 = .ok (.ifCond .eq 20, 3) := by decide +kernel
theorem dX4_lay_72 : decode cX4_lay 72 = .ok (.aload_n 3, 1) := by decide +kernel
theorem dX4_lay_73 : decode cX4_lay 73 = .ok (.ifnull 16, 3) := by decide +kernel
theorem dX4_lay_76 : decode cX4_lay 76 = .ok (.aload_n 3, 1) := by decide +kernel
theorem dX4_lay_77 : decode cX4_lay 77 = .ok (.invokestatic 85, 3) := by decide +kernel
theorem dX4_lay_80 : decode cX4_lay 80 = .ok (.ifnonnull 9, 3) := by decide +kernel
theorem dX4_lay_83 : decode cX4_lay 83 = .ok (.aload_n 0, 1) := by decide +kernel
theorem dX4_lay_84 : decode cX4_lay 84 = .ok (.iconst 3, 1) := by decide +kernel
theorem dX4_lay_85 : decode cX4_lay 85 = .ok (.invokevirtual 67, 3) := by decide +kernel
theorem dX4_lay_88 : decode cX4_lay 88 = .ok (.ireturn, 1) := by decide +kernel
theorem dX4_lay_89 : decode cX4_lay 89 = .ok (.aload_n 0, 1) := by decide +kernel
theorem dX4_lay_90 : decode cX4_lay 90 = .ok (.getfield 17, 3) := by decide +kernel
theorem dX4_lay_93 : decode cX4_lay 93 = .ok (.iload_n 1, 1) := by decide +kernel
theorem dX4_lay_94 : decode cX4_lay 94 = .ok (.aload_n 3, 1) := by decide +kernel
theorem dX4_lay_95 : decode cX4_lay 95 = .ok (.aastore, 1) := by decide +kernel
theorem dX4_lay_96 : decode cX4_lay 96 = .ok (.aload_n 3, 1) := by decide +kernel
theorem dX4_lay_97 : decode cX4_lay 97 = .ok (.ifnonnull 7, 3) := by decide +kernel
theorem dX4_lay_100 : decode cX4_lay 100 = .ok (.iconst 0, 1) := by decide +kernel
theorem dX4_lay_101 : decode cX4_lay 101 = .ok (.goto 4, 3) := by decide +kernel
theorem dX4_lay_104 : decode cX4_lay 104 = .ok (.iconst 1, 1) := by decide +kernel
theorem dX4_lay_105 : decode cX4_lay 105 = .ok (.ireturn, 1) := by decide +kernel
set_option maxRecDepth 20000 in
theorem ggX4_see_X4_tell : GoodIn wsX4_see wsX4_tell := goodIn_r _ [9, 10, 11, 12, 8, 13, 18, 19, 20, 21, 22, 23, 24, 25, 26, 27, 28] (by decide +kernel) (by decide +kernel)
set_option maxRecDepth 20000 in
theorem gX4_see_X4_tell : GoodIn wsX4_see (wsV RX4 67 RX4 yX4_tell wsX4_tell) := goodIn_app (goodIn_of _ (by decide +kernel)) ggX4_see_X4_tell
set_option maxRecDepth 20000 in
theorem ggX4_see_X4_isPlace : GoodIn wsX4_see wsX4_isPlace := goodIn_r _ [17, 1, 2, 18, 19, 20, 21, 22, 23, 24, 25, 26, 27, 28] (by decide +kernel) (by decide +kernel)
set_option maxRecDepth 20000 in
theorem gX4_see_X4_isPlace : GoodIn wsX4_see (wsV RX4 113 RX4 yX4_isPlace wsX4_isPlace) := goodIn_app (goodIn_of _ (by decide +kernel)) ggX4_see_X4_isPlace
theorem dX4_see_0 : decode cX4_see 0 = .ok (.aload_n 0, 1) := by decide +kernel
theorem dX4_see_1 : decode cX4_see 1 = .ok (.getfield 21, 3) := by decide +kernel
theorem dX4_see_4 : decode cX4_see 4 = .ok (.iconst (-1), 1) := by decide +kernel
theorem dX4_see_5 : decode cX4_see 5 = .ok (.if_icmp .ne 9, 3) := by decide +kernel
theorem dX4_see_8 : decode cX4_see 8 = .ok (.aload_n 0, 1) := by decide +kernel
theorem dX4_see_9 : decode cX4_see 9 = .ok (.iconst 1, 1) := by decide +kernel
theorem dX4_see_10 : decode cX4_see 10 = .ok (.invokevirtual 67, 3) := by decide +kernel
theorem dX4_see_13 : decode cX4_see 13 = .ok (.ireturn, 1) := by decide +kernel
theorem dX4_see_14 : decode cX4_see 14 = .ok (.aload_n 0, 1) := by decide +kernel
theorem dX4_see_15 : decode cX4_see 15 = .ok (.iload_n 1, 1) := by decide +kernel
theorem dX4_see_16 : decode cX4_see 16 = .ok (.invokevirtual 113, 3) := by decide +kernel
theorem dX4_see_19 : decode cX4_see 19 = .ok (.ifCond .ne 9, 3) := by decide +kernel
theorem dX4_see_22 : decode cX4_see 22 = .ok (.aload_n 0, 1) := by decide +kernel
theorem dX4_see_23 : decode cX4_see 23 = .ok (.iconst 5, 1) := by decide +kernel
theorem dX4_see_24 : decode cX4_see 24 = .ok (.invokevirtual 67, 3) := by decide +kernel
theorem dX4_see_27 : decode cX4_see 27 = .ok (.ireturn, 1) := by decide +kernel
theorem dX4_see_28 : decode cX4_see 28 = .ok (.aload_n 0, 1) := by decide +kernel
theorem dX4_see_29 : decode cX4_see 29 = .ok (.getfield 17, 3) := by decide +kernel
theorem dX4_see_32 : decode cX4_see 32 = .ok (.iload_n 1, 1) := by decide +kernel
theorem dX4_see_33 : decode cX4_see 33 = .ok (.aaload, 1) := by decide +kernel
theorem dX4_see_34 : decode cX4_see 34 = .ok (.astore_n 2, 1) := by decide +kernel
theorem dX4_see_35 : decode cX4_see 35 = .ok (.aload_n 2, 1) := by decide +kernel
theorem dX4_see_36 : decode cX4_see 36 = .ok (.ifnonnull 11, 3) := by decide +kernel
theorem dX4_see_39 : decode cX4_see 39 = .ok (.aload_n 0, 1) := by decide +kernel
theorem dX4_see_40 : decode cX4_see 40 = .ok (.iconst 1, 1) := by decide +kernel
theorem dX4_see_41 : decode cX4_see 41 = .ok (.invokevirtual 67, 3) := by decide +kernel
theorem dX4_see_44 : decode cX4_see 44 = .ok (.goto 7, 3) := by decide +kernel
theorem dX4_see_47 : decode cX4_see 47 = .ok (.aload_n 2, 1) := by decide +kernel
theorem dX4_see_48 : decode cX4_see 48 = .ok (.getfield 116, 3) := by decide +kernel
theorem dX4_see_51 : decode cX4_see 51 = .ok (.ireturn, 1) := by decide +kernel
set_option maxRecDepth 20000 in
theorem ggX4_change_X4_tell : GoodIn wsX4_change wsX4_tell := goodIn_r _ [7, 8, 9, 10, 6, 11, 15, 16, 17, 18, 19, 20, 21, 22, 23, 24, 25] (by decide +kernel) (by decide +kernel)
set_option maxRecDepth 20000 in
theorem gX4_change_X4_tell : GoodIn wsX4_change (wsV RX4 67 RX4 yX4_tell wsX4_tell) := goodIn_app (goodIn_of _ (by decide +kernel)) ggX4_change_X4_tell
set_option maxRecDepth 20000 in
theorem ggX4_change_X4_clearNumbers : GoodIn wsX4_change wsX4_clearNumbers := goodIn_r _ [14] (by decide +kernel) (by decide +kernel)
set_option maxRecDepth 20000 in
theorem gX4_change_X4_clearNumbers : GoodIn wsX4_change (va_wsS RX4 117 yX4_clearNumbers wsX4_clearNumbers) := goodIn_app (goodIn_of _ (by decide +kernel)) ggX4_change_X4_clearNumbers
theorem dX4_change_0 : decode cX4_change 0 = .ok (.iload_n 1, 1) := by decide +kernel
theorem dX4_change_1 : decode cX4_change 1 = .ok (.bipush 12, 2) := by decide +kernel
theorem dX4_change_3 : decode cX4_change 3 = .ok (.if_icmp .le 5, 3) := by decide +kernel
theorem dX4_change_6 : decode cX4_change 6 = .ok (.iconst (-1), 1) := by decide +kernel
theorem dX4_change_7 : decode cX4_change 7 = .ok (.ireturn, 1) := by decide +kernel
theorem dX4_change_8 : decode cX4_change 8 = .ok (.iload_n 1, 1) := by decide +kernel
theorem dX4_change_9 : decode cX4_change 9 = .ok (.ifCond .ge 9, 3) := by decide +kernel
theorem dX4_change_12 : decode cX4_change 12 = .ok (.aload_n 0, 1) := by decide +kernel
theorem dX4_change_13 : decode cX4_change 13 = .ok (.iconst 4, 1) := by decide +kernel
theorem dX4_change_14 : decode cX4_change 14 = .ok (.invokevirtual 67, 3) := by decide +kernel
theorem dX4_change_17 : decode cX4_change 17 = .ok (.ireturn, 1) := by decide +kernel
theorem dX4_change_18 : decode cX4_change 18 = .ok (.aload_n 0, 1) := by decide +kernel
theorem dX4_change_19 : decode cX4_change 19 = .ok (.getfield 29, 3) := by decide +kernel
theorem dX4_change_22 : decode cX4_change 22 = .ok (.invokestatic 117, 3) := by decide +kernel
theorem dX4_change_25 : decode cX4_change 25 = .ok (.aload_n 0, 1) := by decide +kernel
theorem dX4_change_26 : decode cX4_change 26 = .ok (.iload_n 1, 1) := by decide +kernel
theorem dX4_change_27 : decode cX4_change 27 = .ok (.putfield 33, 3) := by decide +kernel
theorem dX4_change_30 : decode cX4_change 30 = .ok (.iload_n 1, 1) := by decide +kernel
