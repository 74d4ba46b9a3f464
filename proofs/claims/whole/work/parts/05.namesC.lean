theorem dX5_init_0 : decode cX5_init 0 = .ok (.aload_n 0, 1) := by decide +kernel
theorem dX5_init_1 : decode cX5_init 1 = .ok (.invokespecial 1, 3) := by decide +kernel
theorem dX5_init_4 : decode cX5_init 4 = .ok (.aload_n 0, 1) := by decide +kernel
theorem dX5_init_5 : decode cX5_init 5 = .ok (.bipush 64, 2) := by decide +kernel
theorem dX5_init_7 : decode cX5_init 7 = .ok (.newarray .int, 2) := by decide +kernel
theorem dX5_init_9 : decode cX5_init 9 = .ok (.putfield 7, 3) := by decide +kernel
theorem dX5_init_12 : decode cX5_init 12 = .ok (.aload_n 0, 1) := by decide +kernel
theorem dX5_init_13 : decode cX5_init 13 = .ok (.bipush 64, 2) := by decide +kernel
theorem dX5_init_15 : decode cX5_init 15 = .ok (.newarray .int, 2) := by decide +kernel
theorem dX5_init_17 : decode cX5_init 17 = .ok (.putfield 13, 3) := by decide +kernel
theorem dX5_init_20 : decode cX5_init 20 = .ok (.aload_n 0, 1) := by decide +kernel
theorem dX5_init_21 : decode cX5_init 21 = .ok (.bipush 64, 2) := by decide +kernel
theorem dX5_init_23 : decode cX5_init 23 = .ok (.newarray .int, 2) := by decide +kernel
theorem dX5_init_25 : decode cX5_init 25 = .ok (.putfield 16, 3) := by decide +kernel
theorem dX5_init_28 : decode cX5_init 28 = .ok (.aload_n 0, 1) := by decide +kernel
theorem dX5_init_29 : decode cX5_init 29 = .ok (.bipush 64, 2) := by decide +kernel
theorem dX5_init_31 : decode cX5_init 31 = .ok (.newarray .int, 2) := by decide +kernel
theorem dX5_init_33 : decode cX5_init 33 = .ok (.putfield 19, 3) := by decide +kernel
theorem dX5_init_36 : decode cX5_init 36 = .ok (.aload_n 0, 1) := by decide +kernel
theorem dX5_init_37 : decode cX5_init 37 = .ok (.bipush 64, 2) := by decide +kernel
theorem dX5_init_39 : decode cX5_init 39 = .ok (.newarray .int, 2) := by decide +kernel
theorem dX5_init_41 : decode cX5_init 41 = .ok (.putfield 22, 3) := by decide +kernel
theorem dX5_init_44 : decode cX5_init 44 = .ok (.aload_n 0, 1) := by decide +kernel
theorem dX5_init_45 : decode cX5_init 45 = .ok (.bipush 64, 2) := by decide +kernel
theorem dX5_init_47 : decode cX5_init 47 = .ok (.newarray .int, 2) := by decide +kernel
theorem dX5_init_49 : decode cX5_init 49 = .ok (.putfield 25, 3) := by decide +kernel
theorem dX5_init_52 : decode cX5_init 52 = .ok (.aload_n 0, 1) := by decide +kernel
theorem dX5_init_53 : decode cX5_init 53 = .ok (.bipush 64, 2) := by decide +kernel
theorem dX5_init_55 : decode cX5_init 55 = .ok (.newarray .int, 2) := by decide +kernel
theorem dX5_init_57 : decode cX5_init 57 = .ok (.putfield 28, 3) := by decide +kernel
theorem dX5_init_60 : decode cX5_init 60 = .ok (.aload_n 0, 1) := by decide +kernel
theorem dX5_init_61 : decode cX5_init 61 = .ok (.bipush 10, 2) := by decide +kernel
theorem dX5_init_63 : decode cX5_init 63 = .ok (.newarray .int, 2) := by decide +kernel
theorem dX5_init_65 : decode cX5_init 65 = .ok (.dup, 1) := by decide +kernel
theorem dX5_init_66 : decode cX5_init 66 = .ok (.iconst 0, 1) := by decide +kernel
theorem dX5_init_67 : decode cX5_init 67 = .ok (.iconst (-1), 1) := by decide +kernel
theorem dX5_init_68 : decode cX5_init 68 = .ok (.iastore, 1) := by decide +kernel
theorem dX5_init_69 : decode cX5_init 69 = .ok (.dup, 1) := by decide +kernel
theorem dX5_init_70 : decode cX5_init 70 = .ok (.iconst 1, 1) := by decide +kernel
theorem dX5_init_71 : decode cX5_init 71 = .ok (.iconst (-1), 1) := by decide +kernel
theorem dX5_init_72 : decode cX5_init 72 = .ok (.iastore, 1) := by decide +kernel
theorem dX5_init_73 : decode cX5_init 73 = .ok (.dup, 1) := by decide +kernel
theorem dX5_init_74 : decode cX5_init 74 = .ok (.iconst 2, 1) := by decide +kernel
theorem dX5_init_75 : decode cX5_init 75 = .ok (.iconst (-1), 1) := by decide +kernel
theorem dX5_init_76 : decode cX5_init 76 = .ok (.iastore, 1) := by decide +kernel
theorem dX5_init_77 : decode cX5_init 77 = .ok (.dup, 1) := by decide +kernel
theorem dX5_init_78 : decode cX5_init 78 = .ok (.iconst 3, 1) := by decide +kernel
theorem dX5_init_79 : decode cX5_init 79 = .ok (.iconst (-1), 1) := by decide +kernel
theorem dX5_init_80 : decode cX5_init 80 = .ok (.iastore, 1) := by decide +kernel
theorem dX5_init_81 : decode cX5_init 81 = .ok (.dup, 1) := by decide +kernel
theorem dX5_init_82 : decode cX5_init 82 = .ok (.iconst 4, 1) := by decide +kernel
theorem dX5_init_83 : decode cX5_init 83 = .ok (.iconst (-1), 1) := by decide +kernel
theorem dX5_init_84 : decode cX5_init 84 = .ok (.iastore, 1) := by decide +kernel
theorem dX5_init_85 : decode cX5_init 85 = .ok (.dup, 1) := by decide +kernel
theorem dX5_init_86 : decode cX5_init 86 = .ok (.iconst 5, 1) := by decide +kernel
theorem dX5_init_87 : decode cX5_init 87 = .ok (.iconst (-1), 1) := by decide +kernel
theorem dX5_init_88 : decode cX5_init 88 = .ok (.iastore, 1) := by decide +kernel
theorem dX5_init_89 : decode cX5_init 89 = .ok (.dup, 1) := by decide +kernel
theorem dX5_init_90 : decode cX5_init 90 = .ok (.bipush 6, 2) := by decide +kernel
theorem dX5_init_92 : decode cX5_init 92 = .ok (.iconst (-1), 1) := by decide +kernel
theorem dX5_init_93 : decode cX5_init 93 = .ok (.iastore, 1) := by decide +kernel
theorem dX5_init_94 : decode cX5_init 94 = .ok (.dup, 1) := by decide +kernel
theorem dX5_init_95 : decode cX5_init 95 = .ok (.bipush 7, 2) := by decide +kernel
theorem dX5_init_97 : decode cX5_init 97 = .ok (.iconst (-1), 1) := by decide +kernel
theorem dX5_init_98 : decode cX5_init 98 = .ok (.iastore, 1) := by decide +kernel
theorem dX5_init_99 : decode cX5_init 99 = .ok (.dup, 1) := by decide +kernel
theorem dX5_init_100 : decode cX5_init 100 = .ok (.bipush 8, 2) := by decide +kernel
theorem dX5_init_102 : decode cX5_init 102 = .ok (.iconst (-1), 1) := by decide +kernel
theorem dX5_init_103 : decode cX5_init 103 = .ok (.iastore, 1) := by decide +kernel
theorem dX5_init_104 : decode cX5_init 104 = .ok (.dup, 1) := by decide +kernel
theorem dX5_init_105 : decode cX5_init 105 = .ok (.bipush 9, 2) := by decide +kernel
theorem dX5_init_107 : decode cX5_init 107 = .ok (.iconst (-1), 1) := by decide +kernel
theorem dX5_init_108 : decode cX5_init 108 = .ok (.iastore, 1) := by decide +kernel
theorem dX5_init_109 : decode cX5_init 109 = .ok (.putfield 31, 3) := by decide +kernel
theorem dX5_init_112 : decode cX5_init 112 = .ok (.aload_n 0, 1) := by decide +kernel
theorem dX5_init_113 : decode cX5_init 113 = .ok (.iconst (-1), 1) := by decide +kernel
theorem dX5_init_114 : decode cX5_init 114 = .ok (.putfield 34, 3) := by decide +kernel
theorem dX5_init_117 : decode cX5_init 117 = .ok (.aload_n 0, 1) := by decide +kernel
theorem dX5_init_118 : decode cX5_init 118 = .ok (.bipush 12, 2) := by decide +kernel
theorem dX5_init_120 : decode cX5_init 120 = .ok (.newarray .int, 2) := by decide +kernel
theorem dX5_init_122 : decode cX5_init 122 = .ok (.putfield 38, 3) := by decide +kernel
theorem dX5_init_125 : decode cX5_init 125 = .ok (.aload_n 0, 1) := by decide +kernel
theorem dX5_init_126 : decode cX5_init 126 = .ok (.iconst (-1), 1) := by decide +kernel
theorem dX5_init_127 : decode cX5_init 127 = .ok (.putfield 41, 3) := by decide +kernel
theorem dX5_init_130 : decode cX5_init 130 = .ok (.aload_n 0, 1) := by decide +kernel
theorem dX5_init_131 : decode cX5_init 131 = .ok (.bipush 12, 2) := by decide +kernel
theorem dX5_init_133 : decode cX5_init 133 = .ok (.newarray .int, 2) := by decide +kernel
theorem dX5_init_135 : decode cX5_init 135 = .ok (.putfield 44, 3) := by decide +kernel
theorem dX5_init_138 : decode cX5_init 138 = .ok (.aload_n 0, 1) := by decide +kernel
theorem dX5_init_139 : decode cX5_init 139 = .ok (.iconst (-1), 1) := by decide +kernel
theorem dX5_init_140 : decode cX5_init 140 = .ok (.putfield 47, 3) := by decide +kernel
theorem dX5_init_143 : decode cX5_init 143 = .ok (.aload_n 0, 1) := by decide +kernel
theorem dX5_init_144 : decode cX5_init 144 = .ok (.sipush 144, 3) := by decide +kernel
theorem dX5_init_147 : decode cX5_init 147 = .ok (.newarray .int, 2) := by decide +kernel
theorem dX5_init_149 : decode cX5_init 149 = .ok (.putfield 50, 3) := by decide +kernel
theorem dX5_init_152 : decode cX5_init 152 = .ok (.aload_n 0, 1) := by decide +kernel
theorem dX5_init_153 : decode cX5_init 153 = .ok (.bipush 7, 2) := by decide +kernel
theorem dX5_init_155 : decode cX5_init 155 = .ok (.newarray .int, 2) := by decide +kernel
theorem dX5_init_157 : decode cX5_init 157 = .ok (.putfield 53, 3) := by decide +kernel
theorem dX5_init_160 : decode cX5_init 160 = .ok (.return_, 1) := by decide +kernel
theorem dX5_in_0 : decode cX5_in 0 = .ok (.iload_n 0, 1) := by decide +kernel
theorem dX5_in_1 : decode cX5_in 1 = .ok (.iload_n 1, 1) := by decide +kernel
theorem dX5_in_2 : decode cX5_in 2 = .ok (.if_icmp .lt 12, 3) := by decide +kernel
theorem dX5_in_5 : decode cX5_in 5 = .ok (.iload_n 0, 1) := by decide +kernel
theorem dX5_in_6 : decode cX5_in 6 = .ok (.iload_n 2, 1) := by decide +kernel
theorem dX5_in_7 : decode cX5_in 7 = .ok (.if_icmp .gt 7, 3) := by decide +kernel
theorem dX5_in_10 : decode cX5_in 10 = .ok (.iconst 1, 1) := by decide +kernel
theorem dX5_in_11 : decode cX5_in 11 = .ok (.goto 4, 3) := by decide +kernel
theorem dX5_in_14 : decode cX5_in 14 = .ok (.iconst 0, 1) := by decide +kernel
theorem dX5_in_15 : decode cX5_in 15 = .ok (.ireturn, 1) := by decide +kernel
set_option maxRecDepth 20000 in
theorem ggX5_isHook_X5_in : GoodIn wsX5_isHook wsX5_in := goodIn_r _ [4] (by decide +kernel) (by decide +kernel)
set_option maxRecDepth 20000 in
theorem gX5_isHook_X5_in : GoodIn wsX5_isHook (va_wsS RX5 56 yX5_in wsX5_in) := goodIn_app (goodIn_of _ (by decide +kernel)) ggX5_isHook_X5_in
theorem dX5_isHook_0 : decode cX5_isHook 0 = .ok (.iload_n 0, 1) := by decide +kernel
theorem dX5_isHook_1 : decode cX5_isHook 1 = .ok (.iconst 0, 1) := by decide +kernel
theorem dX5_isHook_2 : decode cX5_isHook 2 = .ok (.bipush 9, 2) := by decide +kernel
theorem dX5_isHook_4 : decode cX5_isHook 4 = .ok (.invokestatic 56, 3) := by decide +kernel
theorem dX5_isHook_7 : decode cX5_isHook 7 = .ok (.ireturn, 1) := by decide +kernel
theorem dX5_no_0 : decode cX5_no 0 = .ok (.aload_n 0, 1) := by decide +kernel
theorem dX5_no_1 : decode cX5_no 1 = .ok (.getfield 53, 3) := by decide +kernel
theorem dX5_no_4 : decode cX5_no 4 = .ok (.iload_n 1, 1) := by decide +kernel
theorem dX5_no_5 : decode cX5_no 5 = .ok (.dup2, 1) := by decide +kernel
theorem dX5_no_6 : decode cX5_no 6 = .ok (.iaload, 1) := by decide +kernel
theorem dX5_no_7 : decode cX5_no 7 = .ok (.iconst 1, 1) := by decide +kernel
theorem dX5_no_8 : decode cX5_no 8 = .ok (.iadd, 1) := by decide +kernel
theorem dX5_no_9 : decode cX5_no 9 = .ok (.iastore, 1) := by decide +kernel
theorem dX5_no_10 : decode cX5_no 10 = .ok (.bipush (-10), 2) := by decide +kernel
theorem dX5_no_12 : decode cX5_no 12 = .ok (.iload_n 1, 1) := by decide +kernel
theorem dX5_no_13 : decode cX5_no 13 = .ok (.isub, 1) := by decide +kernel
theorem dX5_no_14 : decode cX5_no 14 = .ok (.ireturn, 1) := by decide +kernel
theorem dX5_isHeld_0 : decode cX5_isHeld 0 = .ok (.iconst 0, 1) := by decide +kernel
theorem dX5_isHeld_1 : decode cX5_isHeld 1 = .ok (.istore_n 2, 1) := by decide +kernel
theorem dX5_isHeld_2 : decode cX5_isHeld 2 = .ok (.iconst 0, 1) := by decide +kernel
theorem dX5_isHeld_3 : decode cX5_isHeld 3 = .ok (.istore_n 3, 1) := by decide +kernel
theorem dX5_isHeld_4 : decode cX5_isHeld 4 = .ok (.iload_n 3, 1) := by decide +kernel
theorem dX5_isHeld_5 : decode cX5_isHeld 5 = .ok (.bipush 10, 2) := by decide +kernel
theorem dX5_isHeld_7 : decode cX5_isHeld 7 = .ok (.if_icmp .ge 29, 3) := by decide +kernel
theorem dX5_isHeld_10 : decode cX5_isHeld 10 = .ok (.iload_n 2, 1) := by decide +kernel
theorem dX5_isHeld_11 : decode cX5_isHeld 11 = .ok (.ifCond .ne 13, 3) := by decide +kernel
theorem dX5_isHeld_14 : decode cX5_isHeld 14 = .ok (.aload_n 0, 1) := by decide +kernel
theorem dX5_isHeld_15 : decode cX5_isHeld 15 = .ok (.getfield 31, 3) := by decide +kernel
theorem dX5_isHeld_18 : decode cX5_isHeld 18 = .ok (.iload_n 3, 1) := by decide +kernel
theorem dX5_isHeld_19 : decode cX5_isHeld 19 = .ok (.iaload, 1) := by decide +kernel
theorem dX5_isHeld_20 : decode cX5_isHeld 20 = .ok (.iload_n 1, 1) := by decide +kernel
theorem dX5_isHeld_21 : decode cX5_isHeld 21 = .ok (.if_icmp .ne 7, 3) := by decide +kernel
theorem dX5_isHeld_24 : decode cX5_isHeld 24 = .ok (.iconst 1, 1) := by decide +kernel
theorem dX5_isHeld_25 : decode cX5_isHeld 25 = .ok (.goto 4, 3) := by decide +kernel
theorem dX5_isHeld_28 : decode cX5_isHeld 28 = .ok (.iconst 0, 1) := by decide +kernel
theorem dX5_isHeld_29 : decode cX5_isHeld 29 = .ok (.istore_n 2, 1) := by decide +kernel
theorem dX5_isHeld_30 : decode cX5_isHeld 30 = .ok (.iinc 3 1, 3) := by decide +kernel
theorem dX5_isHeld_33 : decode cX5_isHeld 33 = .ok (.goto (-29), 3) := by decide +kernel
theorem dX5_isHeld_36 : decode cX5_isHeld 36 = .ok (.iconst 0, 1) := by decide +kernel
theorem dX5_isHeld_37 : decode cX5_isHeld 37 = .ok (.istore_n 3, 1) := by decide +kernel
theorem dX5_isHeld_38 : decode cX5_isHeld 38 = .ok (.iload_n 3, 1) := by decide +kernel
theorem dX5_isHeld_39 : decode cX5_isHeld 39 = .ok (.aload_n 0, 1) := by decide +kernel
theorem dX5_isHeld_40 : decode cX5_isHeld 40 = .ok (.getfield 34, 3) := by decide +kernel
theorem dX5_isHeld_43 : decode cX5_isHeld 43 = .ok (.if_icmp .ge 29, 3) := by decide +kernel
theorem dX5_isHeld_46 : decode cX5_isHeld 46 = .ok (.iload_n 2, 1) := by decide +kernel
theorem dX5_isHeld_47 : decode cX5_isHeld 47 = .ok (.ifCond .ne 13, 3) := by decide +kernel
theorem dX5_isHeld_50 : decode cX5_isHeld 50 = .ok (.aload_n 0, 1) := by decide +kernel
theorem dX5_isHeld_51 : decode cX5_isHeld 51 = .ok (.getfield 38, 3) := by decide +kernel
theorem dX5_isHeld_54 : decode cX5_isHeld 54 = .ok (.iload_n 3, 1) := by decide +kernel
theorem dX5_isHeld_55 : decode cX5_isHeld 55 = .ok (.iaload, 1) := by decide +kernel
theorem dX5_isHeld_56 : decode cX5_isHeld 56 = .ok (.iload_n 1, 1) := by decide +kernel
theorem dX5_isHeld_57 : decode cX5_isHeld 57 = .ok (.if_icmp .ne 7, 3) := by decide +kernel
theorem dX5_isHeld_60 : decode cX5_isHeld 60 = .ok (.iconst 1, 1) := by decide +kernel
theorem dX5_isHeld_61 : decode cX5_isHeld 61 = .ok (.goto 4, 3) := by decide +kernel
theorem dX5_isHeld_64 : decode cX5_isHeld 64 = .ok (.iconst 0, 1) := by decide +kernel
theorem dX5_isHeld_65 : decode cX5_isHeld 65 = .ok (.istore_n 2, 1) := by decide +kernel
theorem dX5_isHeld_66 : decode cX5_isHeld 66 = .ok (.iinc 3 1, 3) := by decide +kernel
theorem dX5_isHeld_69 : decode cX5_isHeld 69 = .ok (.goto (-31), 3) := by decide +kernel
theorem dX5_isHeld_72 : decode cX5_isHeld 72 = .ok (.iload_n 2, 1) := by decide +kernel
theorem dX5_isHeld_73 : decode cX5_isHeld 73 = .ok (.ireturn, 1) := by decide +kernel
set_option maxRecDepth 20000 in
theorem ggX5_free_X5_isHeld : GoodIn wsX5_free wsX5_isHeld := goodIn_r _ [7, 8, 9, 10, 14, 15, 16, 17, 18, 19, 20, 21, 22, 23, 24, 25, 26, 27, 28, 29, 30, 31] (by decide +kernel) (by decide +kernel)
set_option maxRecDepth 20000 in
theorem gX5_free_X5_isHeld : GoodIn wsX5_free (wsV RX5 60 RX5 yX5_isHeld wsX5_isHeld) := goodIn_app (goodIn_of _ (by decide +kernel)) ggX5_free_X5_isHeld
set_option maxRecDepth 20000 in
theorem ggX5_free_X5_in : GoodIn wsX5_free wsX5_in := goodIn_r _ [13] (by decide +kernel) (by decide +kernel)
set_option maxRecDepth 20000 in
theorem gX5_free_X5_in : GoodIn wsX5_free (va_wsS RX5 56 yX5_in wsX5_in) := goodIn_app (goodIn_of _ (by decide +kernel)) ggX5_free_X5_in
theorem dX5_free_0 : decode cX5_free 0 = .ok (.iconst 0, 1) := by decide +kernel
theorem dX5_free_1 : decode cX5_free 1 = .ok (.istore_n 1, 1) := by decide +kernel
theorem dX5_free_2 : decode cX5_free 2 = .ok (.iconst 1, 1) := by decide +kernel
theorem dX5_free_3 : decode cX5_free 3 = .ok (.istore_n 2, 1) := by decide +kernel
theorem dX5_free_4 : decode cX5_free 4 = .ok (.iload_n 2, 1) := by decide +kernel
theorem dX5_free_5 : decode cX5_free 5 = .ok (.ifCond .eq 80, 3) := by decide +kernel
theorem dX5_free_8 : decode cX5_free 8 = .ok (.aload_n 0, 1) := by decide +kernel
theorem dX5_free_9 : decode cX5_free 9 = .ok (.iload_n 1, 1) := by decide +kernel
theorem dX5_free_10 : decode cX5_free 10 = .ok (.invokevirtual 60, 3) := by decide +kernel
theorem dX5_free_13 : decode cX5_free 13 = .ok (.istore_n 2, 1) := by decide +kernel
theorem dX5_free_14 : decode cX5_free 14 = .ok (.iconst 0, 1) := by decide +kernel
theorem dX5_free_15 : decode cX5_free 15 = .ok (.istore_n 3, 1) := by decide +kernel
theorem dX5_free_16 : decode cX5_free 16 = .ok (.iload_n 3, 1) := by decide +kernel
theorem dX5_free_17 : decode cX5_free 17 = .ok (.bipush 64, 2) := by decide +kernel
theorem dX5_free_19 : decode cX5_free 19 = .ok (.if_icmp .ge 51, 3) := by decide +kernel
theorem dX5_free_22 : decode cX5_free 22 = .ok (.iload_n 2, 1) := by decide +kernel
theorem dX5_free_23 : decode cX5_free 23 = .ok (.ifCond .ne 35, 3) := by decide +kernel
theorem dX5_free_26 : decode cX5_free 26 = .ok (.aload_n 0, 1) := by decide +kernel
theorem dX5_free_27 : decode cX5_free 27 = .ok (.getfield 19, 3) := by decide +kernel
theorem dX5_free_30 : decode cX5_free 30 = .ok (.iload_n 3, 1) := by decide +kernel
theorem dX5_free_31 : decode cX5_free 31 = .ok (.iaload, 1) := by decide +kernel
theorem dX5_free_32 : decode cX5_free 32 = .ok (.iload_n 1, 1) := by decide +kernel
theorem dX5_free_33 : decode cX5_free 33 = .ok (.if_icmp .ne 29, 3) := by decide +kernel
theorem dX5_free_36 : decode cX5_free 36 = .ok (.aload_n 0, 1) := by decide +kernel
theorem dX5_free_37 : decode cX5_free 37 = .ok (.getfield 7, 3) := by decide +kernel
theorem dX5_free_40 : decode cX5_free 40 = .ok (.iload_n 3, 1) := by decide +kernel
theorem dX5_free_41 : decode cX5_free 41 = .ok (.iaload, 1) := by decide +kernel
theorem dX5_free_42 : decode cX5_free 42 = .ok (.iconst 1, 1) := by decide +kernel
theorem dX5_free_43 : decode cX5_free 43 = .ok (.iconst 2, 1) := by decide +kernel
theorem dX5_free_44 : decode cX5_free 44 = .ok (.invokestatic 56, 3) := by decide +kernel
theorem dX5_free_47 : decode cX5_free 47 = .ok (.ifCond .eq 15, 3) := by decide +kernel
theorem dX5_free_50 : decode cX5_free 50 = .ok (.aload_n 0, 1) := by decide +kernel
theorem dX5_free_51 : decode cX5_free 51 = .ok (.iload_n 3, 1) := by decide +kernel
theorem dX5_free_52 : decode cX5_free 52 = .ok (.invokevirtual 60, 3) := by decide +kernel
theorem dX5_free_55 : decode cX5_free 55 = .ok (.ifCond .eq 7, 3) := by decide +kernel
theorem dX5_free_58 : decode cX5_free 58 = .ok (.iconst 1, 1) := by decide +kernel
theorem dX5_free_59 : decode cX5_free 59 = .ok (.goto 4, 3) := by decide +kernel
theorem dX5_free_62 : decode cX5_free 62 = .ok (.iconst 0, 1) := by decide +kernel
theorem dX5_free_63 : decode cX5_free 63 = .ok (.istore_n 2, 1) := by decide +kernel
theorem dX5_free_64 : decode cX5_free 64 = .ok (.iinc 3 1, 3) := by decide +kernel
theorem dX5_free_67 : decode cX5_free 67 = .ok (.goto (-51), 3) := by decide +kernel
theorem dX5_free_70 : decode cX5_free 70 = .ok (.iload_n 1, 1) := by decide +kernel
theorem dX5_free_71 : decode cX5_free 71 = .ok (.iload_n 2, 1) := by decide +kernel
theorem dX5_free_72 : decode cX5_free 72 = .ok (.ifCond .eq 7, 3) := by decide +kernel
theorem dX5_free_75 : decode cX5_free 75 = .ok (.iconst 1, 1) := by decide +kernel
theorem dX5_free_76 : decode cX5_free 76 = .ok (.goto 4, 3) := by decide +kernel
theorem dX5_free_79 : decode cX5_free 79 = .ok (.iconst 0, 1) := by decide +kernel
theorem dX5_free_80 : decode cX5_free 80 = .ok (.iadd, 1) := by decide +kernel
theorem dX5_free_81 : decode cX5_free 81 = .ok (.istore_n 1, 1) := by decide +kernel
theorem dX5_free_82 : decode cX5_free 82 = .ok (.goto (-78), 3) := by decide +kernel
theorem dX5_free_85 : decode cX5_free 85 = .ok (.iload_n 1, 1) := by decide +kernel
theorem dX5_free_86 : decode cX5_free 86 = .ok (.ireturn, 1) := by decide +kernel
theorem dX5_sortAt_0 : decode cX5_sortAt 0 = .ok (.aload_n 0, 1) := by decide +kernel
theorem dX5_sortAt_1 : decode cX5_sortAt 1 = .ok (.getfield 31, 3) := by decide +kernel
theorem dX5_sortAt_4 : decode cX5_sortAt 4 = .ok (.iload_n 1, 1) := by decide +kernel
theorem dX5_sortAt_5 : decode cX5_sortAt 5 = .ok (.iaload, 1) := by decide +kernel
theorem dX5_sortAt_6 : decode cX5_sortAt 6 = .ok (.iconst (-1), 1) := by decide +kernel
theorem dX5_sortAt_7 : decode cX5_sortAt 7 = .ok (.if_icmp .ne 7, 3) := by decide +kernel
theorem dX5_sortAt_10 : decode cX5_sortAt 10 = .ok (.iconst 0, 1) := by decide +kernel
theorem dX5_sortAt_11 : decode cX5_sortAt 11 = .ok (.goto 14, 3) := by decide +kernel
theorem dX5_sortAt_14 : decode cX5_sortAt 14 = .ok (.aload_n 0, 1) := by decide +kernel
theorem dX5_sortAt_15 : decode cX5_sortAt 15 = .ok (.getfield 7, 3) := by decide +kernel
theorem dX5_sortAt_18 : decode cX5_sortAt 18 = .ok (.aload_n 0, 1) := by decide +kernel
theorem dX5_sortAt_19 : decode cX5_sortAt 19 = .ok (.getfield 31, 3) := by decide +kernel
theorem dX5_sortAt_22 : decode cX5_sortAt 22 = .ok (.iload_n 1, 1) := by decide +kernel
theorem dX5_sortAt_23 : decode cX5_sortAt 23 = .ok (.iaload, 1) := by decide +kernel
theorem dX5_sortAt_24 : decode cX5_sortAt 24 = .ok (.iaload, 1) := by decide +kernel
theorem dX5_sortAt_25 : decode cX5_sortAt 25 = .ok (.ireturn, 1) := by decide +kernel
set_option maxRecDepth 20000 in
theorem ggX5_isBellAt_X5_sortAt : GoodIn wsX5_isBellAt wsX5_sortAt := goodIn_r _ [5, 6, 7, 11, 12, 13, 14, 15, 16, 17, 18, 19, 20, 21, 22, 23, 24, 25, 26, 27, 28] (by decide +kernel) (by decide +kernel)
set_option maxRecDepth 20000 in
theorem gX5_isBellAt_X5_sortAt : GoodIn wsX5_isBellAt (wsV RX5 64 RX5 yX5_sortAt wsX5_sortAt) := goodIn_app (goodIn_of _ (by decide +kernel)) ggX5_isBellAt_X5_sortAt
set_option maxRecDepth 20000 in
theorem ggX5_isBellAt_X5_in : GoodIn wsX5_isBellAt wsX5_in := goodIn_r _ [10] (by decide +kernel) (by decide +kernel)
set_option maxRecDepth 20000 in
theorem gX5_isBellAt_X5_in : GoodIn wsX5_isBellAt (va_wsS RX5 56 yX5_in wsX5_in) := goodIn_app (goodIn_of _ (by decide +kernel)) ggX5_isBellAt_X5_in
theorem dX5_isBellAt_0 : decode cX5_isBellAt 0 = .ok (.aload_n 0, 1) := by decide +kernel
theorem dX5_isBellAt_1 : decode cX5_isBellAt 1 = .ok (.iload_n 1, 1) := by decide +kernel
theorem dX5_isBellAt_2 : decode cX5_isBellAt 2 = .ok (.invokevirtual 64, 3) := by decide +kernel
theorem dX5_isBellAt_5 : decode cX5_isBellAt 5 = .ok (.iconst 1, 1) := by decide +kernel
theorem dX5_isBellAt_6 : decode cX5_isBellAt 6 = .ok (.iconst 2, 1) := by decide +kernel
theorem dX5_isBellAt_7 : decode cX5_isBellAt 7 = .ok (.invokestatic 56, 3) := by decide +kernel
theorem dX5_isBellAt_10 : decode cX5_isBellAt 10 = .ok (.ireturn, 1) := by decide +kernel
set_option maxRecDepth 20000 in
theorem ggX5_hang_X5_isHook : GoodIn wsX5_hang wsX5_isHook := goodIn_r _ [12, 13, 14, 11, 15] (by decide +kernel) (by decide +kernel)
set_option maxRecDepth 20000 in
theorem gX5_hang_X5_isHook : GoodIn wsX5_hang (va_wsS RX5 68 yX5_isHook wsX5_isHook) := goodIn_app (goodIn_of _ (by decide +kernel)) ggX5_hang_X5_isHook
set_option maxRecDepth 20000 in
theorem ggX5_hang_X5_in : GoodIn wsX5_hang wsX5_in := goodIn_r _ [15] (by decide +kernel) (by decide +kernel)
set_option maxRecDepth 20000 in
theorem gX5_hang_X5_in : GoodIn wsX5_hang (va_wsS RX5 56 yX5_in wsX5_in) := goodIn_app (goodIn_of _ (by decide +kernel)) ggX5_hang_X5_in
set_option maxRecDepth 20000 in
theorem ggX5_hang_X5_sortAt : GoodIn wsX5_hang wsX5_sortAt := goodIn_r _ [19, 1, 2, 30, 31, 32, 33, 34, 35, 36, 37, 38, 39, 40, 41, 42, 43, 44, 45, 46, 47] (by decide +kernel) (by decide +kernel)
set_option maxRecDepth 20000 in
theorem gX5_hang_X5_sortAt : GoodIn wsX5_hang (wsV RX5 64 RX5 yX5_sortAt wsX5_sortAt) := goodIn_app (goodIn_of _ (by decide +kernel)) ggX5_hang_X5_sortAt
set_option maxRecDepth 20000 in
theorem ggX5_hang_X5_free : GoodIn wsX5_hang wsX5_free := goodIn_r _ [23, 5, 2, 24, 25, 26, 11, 27, 1, 28, 29, 13, 14, 15, 30, 31, 32, 33, 34, 35, 36, 37, 38, 39, 40, 41, 42, 43, 44, 45, 46, 47] (by decide +kernel) (by decide +kernel)
set_option maxRecDepth 20000 in
theorem gX5_hang_X5_free : GoodIn wsX5_hang (wsV RX5 71 RX5 yX5_free wsX5_free) := goodIn_app (goodIn_of _ (by decide +kernel)) ggX5_hang_X5_free
theorem dX5_hang_0 : decode cX5_hang 0 = .ok (.iload_n 1, 1) := by decide +kernel
theorem dX5_hang_1 : decode cX5_hang 1 = .ok (.invokestatic 68, 3) := by decide +kernel
theorem dX5_hang_4 : decode cX5_hang 4 = .ok (.ifCond .eq 27, 3) := by decide +kernel
theorem dX5_hang_7 : decode cX5_hang 7 = .ok (.iload_n 2, 1) := by decide +kernel
theorem dX5_hang_8 : decode cX5_hang 8 = .ok (.iconst 0, 1) := by decide +kernel
theorem dX5_hang_9 : decode cX5_hang 9 = .ok (.iconst 3, 1) := by decide +kernel
theorem dX5_hang_10 : decode cX5_hang 10 = .ok (.invokestatic 56, 3) := by decide +kernel
theorem dX5_hang_13 : decode cX5_hang 13 = .ok (.ifCond .eq 18, 3) := by decide +kernel
theorem dX5_hang_16 : decode cX5_hang 16 = .ok (.iload_n 2, 1) := by decide +kernel
theorem dX5_hang_17 : decode cX5_hang 17 = .ok (.ifCond .le 16, 3) := by decide +kernel
theorem dX5_hang_20 : decode cX5_hang 20 = .ok (.iload_n 3, 1) := by decide +kernel
theorem dX5_hang_21 : decode cX5_hang 21 = .ok (.iconst 1, 1) := by decide +kernel
theorem dX5_hang_22 : decode cX5_hang 22 = .ok (.sipush 1000, 3) := by decide +kernel
theorem dX5_hang_25 : decode cX5_hang 25 = .ok (.invokestatic 56, 3) := by decide +kernel
theorem dX5_hang_28 : decode cX5_hang 28 = .ok (.ifCond .ne 5, 3) := by decide +kernel
theorem dX5_hang_31 : decode cX5_hang 31 = .ok (.iconst (-1), 1) := by decide +kernel
theorem dX5_hang_32 : decode cX5_hang 32 = .ok (.ireturn, 1) := by decide +kernel
theorem dX5_hang_33 : decode cX5_hang 33 = .ok (.aload_n 0, 1) := by decide +kernel
theorem dX5_hang_34 : decode cX5_hang 34 = .ok (.iload_n 1, 1) := by decide +kernel
theorem dX5_hang_35 : decode cX5_hang 35 = .ok (.invokevirtual 64, 3) := by decide +kernel
theorem dX5_hang_38 : decode cX5_hang 38 = .ok (.istore 4, 2) := by decide +kernel
theorem dX5_hang_40 : decode cX5_hang 40 = .ok (.aload_n 0, 1) := by decide +kernel
theorem dX5_hang_41 : decode cX5_hang 41 = .ok (.getfield 31, 3) := by decide +kernel
theorem dX5_hang_44 : decode cX5_hang 44 = .ok (.iload_n 1, 1) := by decide +kernel
theorem dX5_hang_45 : decode cX5_hang 45 = .ok (.iconst (-1), 1) := by decide +kernel
theorem dX5_hang_46 : decode cX5_hang 46 = .ok (.iastore, 1) := by decide +kernel
theorem dX5_hang_47 : decode cX5_hang 47 = .ok (.iload_n 2, 1) := by decide +kernel
theorem dX5_hang_48 : decode cX5_hang 48 = .ok (.ifCond .le 73, 3) := by decide +kernel
theorem dX5_hang_51 : decode cX5_hang 51 = .ok (.aload_n 0, 1) := by decide +kernel
theorem dX5_hang_52 : decode cX5_hang 52 = .ok (.invokevirtual 71, 3) := by decide +kernel
theorem dX5_hang_55 : decode cX5_hang 55 = .ok (.istore 5, 2) := by decide +kernel
theorem dX5_hang_57 : decode cX5_hang 57 = .ok (.aload_n 0, 1) := by decide +kernel
theorem dX5_hang_58 : decode cX5_hang 58 = .ok (.getfield 7, 3) := by decide +kernel
theorem dX5_hang_61 : decode cX5_hang 61 = .ok (.iload 5, 2) := by decide +kernel
theorem dX5_hang_63 : decode cX5_hang 63 = .ok (.iload_n 2, 1) := by decide +kernel
theorem dX5_hang_64 : decode cX5_hang 64 = .ok (.iastore, 1) := by decide +kernel
theorem dX5_hang_65 : decode cX5_hang 65 = .ok (.aload_n 0, 1) := by decide +kernel
theorem dX5_hang_66 : decode cX5_hang 66 = .ok (.getfield 13, 3) := by decide +kernel
theorem dX5_hang_69 : decode cX5_hang 69 = .ok (.iload 5, 2) := by decide +kernel
theorem dX5_hang_71 : decode cX5_hang 71 = .ok (.iload_n 3, 1) := by decide +kernel
theorem dX5_hang_72 : decode cX5_hang 72 = .ok (.iastore, 1) := by decide +kernel
theorem dX5_hang_73 : decode cX5_hang 73 = .ok (.aload_n 0, 1) := by decide +kernel
theorem dX5_hang_74 : decode cX5_hang 74 = .ok (.getfield 16, 3) := by decide +kernel
theorem dX5_hang_77 : decode cX5_hang 77 = .ok (.iload 5, 2) := by decide +kernel
theorem dX5_hang_79 : decode cX5_hang 79 = .ok (.iconst 0, 1) := by decide +kernel
theorem dX5_hang_80 : decode cX5_hang 80 = .ok (.iastore, 1) := by decide +kernel
theorem dX5_hang_81 : decode cX5_hang 81 = .ok (.aload_n 0, 1) := by decide +kernel
theorem dX5_hang_82 : decode cX5_hang 82 = .ok (.getfield 19, 3) := by decide +kernel
theorem dX5_hang_85 : decode cX5_hang 85 = .ok (.iload 5, 2) := by decide +kernel
theorem dX5_hang_87 : decode cX5_hang 87 = .ok (.iconst (-1), 1) := by decide +kernel
theorem dX5_hang_88 : decode cX5_hang 88 = .ok (.iastore, 1) := by decide +kernel
theorem dX5_hang_89 : decode cX5_hang 89 = .ok (.aload_n 0, 1) := by decide +kernel
theorem dX5_hang_90 : decode cX5_hang 90 = .ok (.getfield 22, 3) := by decide +kernel
theorem dX5_hang_93 : decode cX5_hang 93 = .ok (.iload 5, 2) := by decide +kernel
theorem dX5_hang_95 : decode cX5_hang 95 = .ok (.iconst 0, 1) := by decide +kernel
theorem dX5_hang_96 : decode cX5_hang 96 = .ok (.iastore, 1) := by decide +kernel
theorem dX5_hang_97 : decode cX5_hang 97 = .ok (.aload_n 0, 1) := by decide +kernel
theorem dX5_hang_98 : decode cX5_hang 98 = .ok (.getfield 25, 3) := by decide +kernel
theorem dX5_hang_101 : decode cX5_hang 101 = .ok (.iload 5, 2) := by decide +kernel
theorem dX5_hang_103 : decode cX5_hang 103 = .ok (.iconst 0, 1) := by decide +kernel
theorem dX5_hang_104 : decode cX5_hang 104 = .ok (.iastore, 1) := by decide +kernel
theorem dX5_hang_105 : decode cX5_hang 105 = .ok (.aload_n 0, 1) := by decide +kernel
theorem dX5_hang_106 : decode cX5_hang 106 = .ok (.getfield 28, 3) := by decide +kernel
theorem dX5_hang_109 : decode cX5_hang 109 = .ok (.iload 5, 2) := by decide +kernel
theorem dX5_hang_111 : decode cX5_hang 111 = .ok (.iconst 0, 1) := by decide +kernel
theorem dX5_hang_112 : decode cX5_hang 112 = .ok (.iastore, 1) := by decide +kernel
theorem dX5_hang_113 : decode cX5_hang 113 = .ok (.aload_n 0, 1) := by decide +kernel
theorem dX5_hang_114 : decode cX5_hang 114 = .ok (.getfield 31, 3) := by decide +kernel
theorem dX5_hang_117 : decode cX5_hang 117 = .ok (.iload_n 1, 1) := by decide +kernel
theorem dX5_hang_118 : decode cX5_hang 118 = .ok (.iload 5, 2) := by decide +kernel
theorem dX5_hang_120 : decode cX5_hang 120 = .ok (.iastore, 1) := by decide +kernel
theorem dX5_hang_121 : decode cX5_hang 121 = .ok (.iload 4, 2) := by decide +kernel
theorem dX5_hang_123 : decode cX5_hang 123 = .ok (.ireturn, 1) := by decide +kernel
set_option maxRecDepth 20000 in
theorem ggX5_weigh_X5_isHook : GoodIn wsX5_weigh wsX5_isHook := goodIn_r _ [6, 7, 8, 5, 9] (by decide +kernel) (by decide +kernel)
set_option maxRecDepth 20000 in
theorem gX5_weigh_X5_isHook : GoodIn wsX5_weigh (va_wsS RX5 68 yX5_isHook wsX5_isHook) := goodIn_app (goodIn_of _ (by decide +kernel)) ggX5_weigh_X5_isHook
set_option maxRecDepth 20000 in
theorem ggX5_weigh_X5_no : GoodIn wsX5_weigh wsX5_no := goodIn_r _ [13, 14, 15, 16, 17, 18, 19, 20, 21, 22, 23, 24, 25, 26, 27, 28, 29, 30, 31, 32] (by decide +kernel) (by decide +kernel)
set_option maxRecDepth 20000 in
theorem gX5_weigh_X5_no : GoodIn wsX5_weigh (wsV RX5 75 RX5 yX5_no wsX5_no) := goodIn_app (goodIn_of _ (by decide +kernel)) ggX5_weigh_X5_no
theorem dX5_weigh_0 : decode cX5_weigh 0 = .ok (.iload_n 1, 1) := by decide +kernel
theorem dX5_weigh_1 : decode cX5_weigh 1 = .ok (.invokestatic 68, 3) := by decide +kernel
theorem dX5_weigh_4 : decode cX5_weigh 4 = .ok (.ifCond .ne 5, 3) := by decide +kernel
theorem dX5_weigh_7 : decode cX5_weigh 7 = .ok (.iconst (-1), 1) := by decide +kernel
theorem dX5_weigh_8 : decode cX5_weigh 8 = .ok (.ireturn, 1) := by decide +kernel
theorem dX5_weigh_9 : decode cX5_weigh 9 = .ok (.aload_n 0, 1) := by decide +kernel
theorem dX5_weigh_10 : decode cX5_weigh 10 = .ok (.getfield 31, 3) := by decide +kernel
theorem dX5_weigh_13 : decode cX5_weigh 13 = .ok (.iload_n 1, 1) := by decide +kernel
theorem dX5_weigh_14 : decode cX5_weigh 14 = .ok (.iaload, 1) := by decide +kernel
theorem dX5_weigh_15 : decode cX5_weigh 15 = .ok (.iconst (-1), 1) := by decide +kernel
theorem dX5_weigh_16 : decode cX5_weigh 16 = .ok (.if_icmp .ne 11, 3) := by decide +kernel
theorem dX5_weigh_19 : decode cX5_weigh 19 = .ok (.aload_n 0, 1) := by decide +kernel
theorem dX5_weigh_20 : decode cX5_weigh 20 = .ok (.iconst 1, 1) := by decide +kernel
theorem dX5_weigh_21 : decode cX5_weigh 21 = .ok (.invokevirtual 75, 3) := by decide +kernel
theorem dX5_weigh_24 : decode cX5_weigh 24 = .ok (.goto 14, 3) := by decide +kernel
theorem dX5_weigh_27 : decode cX5_weigh 27 = .ok (.aload_n 0, 1) := by decide +kernel
theorem dX5_weigh_28 : decode cX5_weigh 28 = .ok (.getfield 13, 3) := by decide +kernel
theorem dX5_weigh_31 : decode cX5_weigh 31 = .ok (.aload_n 0, 1) := by decide +kernel
theorem dX5_weigh_32 : decode cX5_weigh 32 = .ok (.getfield 31, 3) := by decide +kernel
theorem dX5_weigh_35 : decode cX5_weigh 35 = .ok (.iload_n 1, 1) := by decide +kernel
theorem dX5_weigh_36 : decode cX5_weigh 36 = .ok (.iaload, 1) := by decide +kernel
theorem dX5_weigh_37 : decode cX5_weigh 37 = .ok (.iaload, 1) := by decide +kernel
theorem dX5_weigh_38 : decode cX5_weigh 38 = .ok (.ireturn, 1) := by decide +kernel
theorem dX5_rings_0 : decode cX5_rings 0 = .ok (.aload_n 0, 1) := by decide +kernel
theorem dX5_rings_1 : decode cX5_rings 1 = .ok (.getfield 16, 3) := by decide +kernel
theorem dX5_rings_4 : decode cX5_rings 4 = .ok (.iload_n 1, 1) := by decide +kernel
theorem dX5_rings_5 : decode cX5_rings 5 = .ok (.dup2, 1) := by decide +kernel
theorem dX5_rings_6 : decode cX5_rings 6 = .ok (.iaload, 1) := by decide +kernel
theorem dX5_rings_7 : decode cX5_rings 7 = .ok (.iconst 1, 1) := by decide +kernel
theorem dX5_rings_8 : decode cX5_rings 8 = .ok (.iadd, 1) := by decide +kernel
theorem dX5_rings_9 : decode cX5_rings 9 = .ok (.iastore, 1) := by decide +kernel
theorem dX5_rings_10 : decode cX5_rings 10 = .ok (.aload_n 0, 1) := by decide +kernel
theorem dX5_rings_11 : decode cX5_rings 11 = .ok (.getfield 16, 3) := by decide +kernel
theorem dX5_rings_14 : decode cX5_rings 14 = .ok (.iload_n 1, 1) := by decide +kernel
theorem dX5_rings_15 : decode cX5_rings 15 = .ok (.iaload, 1) := by decide +kernel
theorem dX5_rings_16 : decode cX5_rings 16 = .ok (.iconst 5, 1) := by decide +kernel
theorem dX5_rings_17 : decode cX5_rings 17 = .ok (.if_icmp .le 27, 3) := by decide +kernel
theorem dX5_rings_20 : decode cX5_rings 20 = .ok (.aload_n 0, 1) := by decide +kernel
theorem dX5_rings_21 : decode cX5_rings 21 = .ok (.getfield 22, 3) := by decide +kernel
theorem dX5_rings_24 : decode cX5_rings 24 = .ok (.iload_n 1, 1) := by decide +kernel
theorem dX5_rings_25 : decode cX5_rings 25 = .ok (.iaload, 1) := by decide +kernel
theorem dX5_rings_26 : decode cX5_rings 26 = .ok (.ifCond .ne 5, 3) := by decide +kernel
theorem dX5_rings_29 : decode cX5_rings 29 = .ok (.iconst (-1), 1) := by decide +kernel
theorem dX5_rings_30 : decode cX5_rings 30 = .ok (.ireturn, 1) := by decide +kernel
theorem dX5_rings_31 : decode cX5_rings 31 = .ok (.aload_n 0, 1) := by decide +kernel
theorem dX5_rings_32 : decode cX5_rings 32 = .ok (.aload_n 0, 1) := by decide +kernel
theorem dX5_rings_33 : decode cX5_rings 33 = .ok (.getfield 22, 3) := by decide +kernel
theorem dX5_rings_36 : decode cX5_rings 36 = .ok (.iload_n 1, 1) := by decide +kernel
theorem dX5_rings_37 : decode cX5_rings 37 = .ok (.iaload, 1) := by decide +kernel
theorem dX5_rings_38 : decode cX5_rings 38 = .ok (.putfield 78, 3) := by decide +kernel
theorem dX5_rings_41 : decode cX5_rings 41 = .ok (.bipush (-6), 2) := by decide +kernel
theorem dX5_rings_43 : decode cX5_rings 43 = .ok (.ireturn, 1) := by decide +kernel
theorem dX5_rings_44 : decode cX5_rings 44 = .ok (.aload_n 0, 1) := by decide +kernel
theorem dX5_rings_45 : decode cX5_rings 45 = .ok (.getfield 19, 3) := by decide +kernel
theorem dX5_rings_48 : decode cX5_rings 48 = .ok (.iload_n 1, 1) := by decide +kernel
theorem dX5_rings_49 : decode cX5_rings 49 = .ok (.iaload, 1) := by decide +kernel
theorem dX5_rings_50 : decode cX5_rings 50 = .ok (.istore_n 2, 1) := by decide +kernel
theorem dX5_rings_51 : decode cX5_rings 51 = .ok (.iload_n 2, 1) := by decide +kernel
theorem dX5_rings_52 : decode cX5_rings 52 = .ok (.iconst (-1), 1) := by decide +kernel
theorem dX5_rings_53 : decode cX5_rings 53 = .ok (.if_icmp .ne 5, 3) := by decide +kernel
theorem dX5_rings_56 : decode cX5_rings 56 = .ok (.iconst (-1), 1) := by decide +kernel
theorem dX5_rings_57 : decode cX5_rings 57 = .ok (.ireturn, 1) := by decide +kernel
theorem dX5_rings_58 : decode cX5_rings 58 = .ok (.aload_n 0, 1) := by decide +kernel
theorem dX5_rings_59 : decode cX5_rings 59 = .ok (.getfield 28, 3) := by decide +kernel
theorem dX5_rings_62 : decode cX5_rings 62 = .ok (.iload_n 2, 1) := by decide +kernel
theorem dX5_rings_63 : decode cX5_rings 63 = .ok (.dup2, 1) := by decide +kernel
theorem dX5_rings_64 : decode cX5_rings 64 = .ok (.iaload, 1) := by decide +kernel
theorem dX5_rings_65 : decode cX5_rings 65 = .ok (.iconst 1, 1) := by decide +kernel
theorem dX5_rings_66 : decode cX5_rings 66 = .ok (.iadd, 1) := by decide +kernel
theorem dX5_rings_67 : decode cX5_rings 67 = .ok (.iastore, 1) := by decide +kernel
theorem dX5_rings_68 : decode cX5_rings 68 = .ok (.aload_n 0, 1) := by decide +kernel
theorem dX5_rings_69 : decode cX5_rings 69 = .ok (.getfield 13, 3) := by decide +kernel
theorem dX5_rings_72 : decode cX5_rings 72 = .ok (.iload_n 1, 1) := by decide +kernel
theorem dX5_rings_73 : decode cX5_rings 73 = .ok (.iaload, 1) := by decide +kernel
theorem dX5_rings_74 : decode cX5_rings 74 = .ok (.aload_n 0, 1) := by decide +kernel
theorem dX5_rings_75 : decode cX5_rings 75 = .ok (.getfield 13, 3) := by decide +kernel
theorem dX5_rings_78 : decode cX5_rings 78 = .ok (.iload_n 2, 1) := by decide +kernel
theorem dX5_rings_79 : decode cX5_rings 79 = .ok (.iaload, 1) := by decide +kernel
theorem dX5_rings_80 : decode cX5_rings 80 = .ok (.iadd, 1) := by decide +kernel
theorem dX5_rings_81 : decode cX5_rings 81 = .ok (.aload_n 0, 1) := by decide +kernel
theorem dX5_rings_82 : decode cX5_rings 82 = .ok (.getfield 7, 3) := by decide +kernel
theorem dX5_rings_85 : decode cX5_rings 85 = .ok (.iload_n 1, 1) := by decide +kernel
theorem dX5_rings_86 : decode cX5_rings 86 = .ok (.iaload, 1) := by decide +kernel
theorem dX5_rings_87 : decode cX5_rings 87 = .ok (.iconst 2, 1) := by decide +kernel
theorem dX5_rings_88 : decode cX5_rings 88 = .ok (.if_icmp .ne 12, 3) := by decide +kernel
theorem dX5_rings_91 : decode cX5_rings 91 = .ok (.aload_n 0, 1) := by decide +kernel
theorem dX5_rings_92 : decode cX5_rings 92 = .ok (.getfield 25, 3) := by decide +kernel
theorem dX5_rings_95 : decode cX5_rings 95 = .ok (.iload_n 1, 1) := by decide +kernel
theorem dX5_rings_96 : decode cX5_rings 96 = .ok (.iaload, 1) := by decide +kernel
theorem dX5_rings_97 : decode cX5_rings 97 = .ok (.goto 4, 3) := by decide +kernel
theorem dX5_rings_100 : decode cX5_rings 100 = .ok (.iconst 0, 1) := by decide +kernel
theorem dX5_rings_101 : decode cX5_rings 101 = .ok (.iadd, 1) := by decide +kernel
theorem dX5_rings_102 : decode cX5_rings 102 = .ok (.ireturn, 1) := by decide +kernel
set_option maxRecDepth 20000 in
theorem ggX5_against_X5_sortAt : GoodIn wsX5_against wsX5_sortAt := goodIn_r _ [5, 6, 7, 8, 9, 10, 11, 12, 13, 14, 15, 16, 17, 18, 19, 20, 21, 22, 23, 24, 25] (by decide +kernel) (by decide +kernel)
set_option maxRecDepth 20000 in
theorem gX5_against_X5_sortAt : GoodIn wsX5_against (wsV RX5 64 RX5 yX5_sortAt wsX5_sortAt) := goodIn_app (goodIn_of _ (by decide +kernel)) ggX5_against_X5_sortAt
theorem dX5_against_0 : decode cX5_against 0 = .ok (.aload_n 0, 1) := by decide +kernel
theorem dX5_against_1 : decode cX5_against 1 = .ok (.iload_n 1, 1) := by decide +kernel
theorem dX5_against_2 : decode cX5_against 2 = .ok (.invokevirtual 64, 3) := by decide +kernel
theorem dX5_against_5 : decode cX5_against 5 = .ok (.istore_n 3, 1) := by decide +kernel
theorem dX5_against_6 : decode cX5_against 6 = .ok (.iload_n 3, 1) := by decide +kernel
theorem dX5_against_7 : decode cX5_against 7 = .ok (.ifCond .ne 7, 3) := by decide +kernel
theorem dX5_against_10 : decode cX5_against 10 = .ok (.iconst 1, 1) := by decide +kernel
theorem dX5_against_11 : decode cX5_against 11 = .ok (.goto 22, 3) := by decide +kernel
theorem dX5_against_14 : decode cX5_against 14 = .ok (.iload_n 3, 1) := by decide +kernel
theorem dX5_against_15 : decode cX5_against 15 = .ok (.iconst 3, 1) := by decide +kernel
theorem dX5_against_16 : decode cX5_against 16 = .ok (.if_icmp .eq 12, 3) := by decide +kernel
theorem dX5_against_19 : decode cX5_against 19 = .ok (.iload_n 2, 1) := by decide +kernel
theorem dX5_against_20 : decode cX5_against 20 = .ok (.ifCond .eq 12, 3) := by decide +kernel
theorem dX5_against_23 : decode cX5_against 23 = .ok (.iload_n 3, 1) := by decide +kernel
theorem dX5_against_24 : decode cX5_against 24 = .ok (.iconst 2, 1) := by decide +kernel
theorem dX5_against_25 : decode cX5_against 25 = .ok (.if_icmp .eq 7, 3) := by decide +kernel
theorem dX5_against_28 : decode cX5_against 28 = .ok (.iconst 2, 1) := by decide +kernel
theorem dX5_against_29 : decode cX5_against 29 = .ok (.goto 4, 3) := by decide +kernel
theorem dX5_against_32 : decode cX5_against 32 = .ok (.iconst 0, 1) := by decide +kernel
theorem dX5_against_33 : decode cX5_against 33 = .ok (.ireturn, 1) := by decide +kernel
set_option maxRecDepth 20000 in
theorem ggX5_ring_X5_isHook : GoodIn wsX5_ring wsX5_isHook := goodIn_r _ [5, 6, 7, 4, 8] (by decide +kernel) (by decide +kernel)
set_option maxRecDepth 20000 in
theorem gX5_ring_X5_isHook : GoodIn wsX5_ring (va_wsS RX5 68 yX5_isHook wsX5_isHook) := goodIn_app (goodIn_of _ (by decide +kernel)) ggX5_ring_X5_isHook
set_option maxRecDepth 20000 in
theorem ggX5_ring_X5_against : GoodIn wsX5_ring wsX5_against := goodIn_r _ [12, 13, 14, 15, 4, 16, 1, 17, 34, 35, 36, 37, 38, 39, 40, 41, 42, 43, 44, 45, 46, 47, 48, 49, 50, 51] (by decide +kernel) (by decide +kernel)
set_option maxRecDepth 20000 in
theorem gX5_ring_X5_against : GoodIn wsX5_ring (wsV RX5 81 RX5 yX5_against wsX5_against) := goodIn_app (goodIn_of _ (by decide +kernel)) ggX5_ring_X5_against
set_option maxRecDepth 20000 in
theorem ggX5_ring_X5_no : GoodIn wsX5_ring wsX5_no := goodIn_r _ [21, 22, 34, 35, 36, 37, 38, 39, 40, 41, 42, 43, 44, 45, 46, 47, 48, 49, 50, 51] (by decide +kernel) (by decide +kernel)
set_option maxRecDepth 20000 in
theorem gX5_ring_X5_no : GoodIn wsX5_ring (wsV RX5 75 RX5 yX5_no wsX5_no) := goodIn_app (goodIn_of _ (by decide +kernel)) ggX5_ring_X5_no
set_option maxRecDepth 20000 in
theorem ggX5_ring_X5_rings : GoodIn wsX5_ring wsX5_rings := goodIn_r _ [26, 27, 28, 29, 30, 31, 32, 17, 33, 34, 35, 36, 37, 38, 39, 40, 41, 42, 43, 44, 45, 46, 47, 48, 49, 50, 51] (by decide +kernel) (by decide +kernel)
set_option maxRecDepth 20000 in
theorem gX5_ring_X5_rings : GoodIn wsX5_ring (wsV RX5 85 RX5 yX5_rings wsX5_rings) := goodIn_app (goodIn_of _ (by decide +kernel)) ggX5_ring_X5_rings
theorem dX5_ring_0 : decode cX5_ring 0 = .ok (.iload_n 1, 1) := by decide +kernel
theorem dX5_ring_1 : decode cX5_ring 1 = .ok (.invokestatic 68, 3) := by decide +kernel
theorem dX5_ring_4 : decode cX5_ring 4 = .ok (.ifCond .ne 5, 3) := by decide +kernel
theorem dX5_ring_7 : decode cX5_ring 7 = .ok (.iconst (-1), 1) := by decide +kernel
theorem dX5_ring_8 : decode cX5_ring 8 = .ok (.ireturn, 1) := by decide +kernel
theorem dX5_ring_9 : decode cX5_ring 9 = .ok (.aload_n 0, 1) := by decide +kernel
theorem dX5_ring_10 : decode cX5_ring 10 = .ok (.iload_n 1, 1) := by decide +kernel
theorem dX5_ring_11 : decode cX5_ring 11 = .ok (.iconst 0, 1) := by decide +kernel
theorem dX5_ring_12 : decode cX5_ring 12 = .ok (.invokevirtual 81, 3) := by decide +kernel
theorem dX5_ring_15 : decode cX5_ring 15 = .ok (.istore_n 2, 1) := by decide +kernel
theorem dX5_ring_16 : decode cX5_ring 16 = .ok (.iload_n 2, 1) := by decide +kernel
theorem dX5_ring_17 : decode cX5_ring 17 = .ok (.ifCond .le 9, 3) := by decide +kernel
theorem dX5_ring_20 : decode cX5_ring 20 = .ok (.aload_n 0, 1) := by decide +kernel
theorem dX5_ring_21 : decode cX5_ring 21 = .ok (.iload_n 2, 1) := by decide +kernel
theorem dX5_ring_22 : decode cX5_ring 22 = .ok (.invokevirtual 75, 3) := by decide +kernel
theorem dX5_ring_25 : decode cX5_ring 25 = .ok (.ireturn, 1) := by decide +kernel
theorem dX5_ring_26 : decode cX5_ring 26 = .ok (.aload_n 0, 1) := by decide +kernel
theorem dX5_ring_27 : decode cX5_ring 27 = .ok (.aload_n 0, 1) := by decide +kernel
theorem dX5_ring_28 : decode cX5_ring 28 = .ok (.getfield 31, 3) := by decide +kernel
theorem dX5_ring_31 : decode cX5_ring 31 = .ok (.iload_n 1, 1) := by decide +kernel
theorem dX5_ring_32 : decode cX5_ring 32 = .ok (.iaload, 1) := by decide +kernel
theorem dX5_ring_33 : decode cX5_ring 33 = .ok (.invokevirtual 85, 3) := by decide +kernel
theorem dX5_ring_36 : decode cX5_ring 36 = .ok (.istore_n 3, 1) := by decide +kernel
theorem dX5_ring_37 : decode cX5_ring 37 = .ok (.iload_n 3, 1) := by decide +kernel
theorem dX5_ring_38 : decode cX5_ring 38 = .ok (.ifCond .ge 12, 3) := by decide +kernel
theorem dX5_ring_41 : decode cX5_ring 41 = .ok (.aload_n 0, 1) := by decide +kernel
theorem dX5_ring_42 : decode cX5_ring 42 = .ok (.iload_n 3, 1) := by decide +kernel
theorem dX5_ring_43 : decode cX5_ring 43 = .ok (.ineg, 1) := by decide +kernel
theorem dX5_ring_44 : decode cX5_ring 44 = .ok (.invokevirtual 75, 3) := by decide +kernel
theorem dX5_ring_47 : decode cX5_ring 47 = .ok (.goto 4, 3) := by decide +kernel
theorem dX5_ring_50 : decode cX5_ring 50 = .ok (.iload_n 3, 1) := by decide +kernel
theorem dX5_ring_51 : decode cX5_ring 51 = .ok (.ireturn, 1) := by decide +kernel
set_option maxRecDepth 20000 in
theorem ggX5_hum_X5_isHook : GoodIn wsX5_hum wsX5_isHook := goodIn_r _ [6, 7, 8, 5, 9] (by decide +kernel) (by decide +kernel)
set_option maxRecDepth 20000 in
theorem gX5_hum_X5_isHook : GoodIn wsX5_hum (va_wsS RX5 68 yX5_isHook wsX5_isHook) := goodIn_app (goodIn_of _ (by decide +kernel)) ggX5_hum_X5_isHook
set_option maxRecDepth 20000 in
theorem ggX5_hum_X5_against : GoodIn wsX5_hum wsX5_against := goodIn_r _ [13, 14, 15, 16, 5, 17, 2, 18, 24, 25, 26, 27, 28, 29, 30, 31, 32, 33, 34, 35, 36, 37, 38, 39, 40, 41] (by decide +kernel) (by decide +kernel)
set_option maxRecDepth 20000 in
theorem gX5_hum_X5_against : GoodIn wsX5_hum (wsV RX5 81 RX5 yX5_against wsX5_against) := goodIn_app (goodIn_of _ (by decide +kernel)) ggX5_hum_X5_against
set_option maxRecDepth 20000 in
theorem ggX5_hum_X5_no : GoodIn wsX5_hum wsX5_no := goodIn_r _ [22, 23, 24, 25, 26, 27, 28, 29, 30, 31, 32, 33, 34, 35, 36, 37, 38, 39, 40, 41] (by decide +kernel) (by decide +kernel)
set_option maxRecDepth 20000 in
theorem gX5_hum_X5_no : GoodIn wsX5_hum (wsV RX5 75 RX5 yX5_no wsX5_no) := goodIn_app (goodIn_of _ (by decide +kernel)) ggX5_hum_X5_no
theorem dX5_hum_0 : decode cX5_hum 0 = .ok (.iload_n 1, 1) := by decide +kernel
theorem dX5_hum_1 : decode cX5_hum 1 = .ok (.invokestatic 68, 3) := by decide +kernel
theorem dX5_hum_4 : decode cX5_hum 4 = .ok (.ifCond .ne 5, 3) := by decide +kernel
theorem dX5_hum_7 : decode cX5_hum 7 = .ok (.iconst (-1), 1) := by decide +kernel
theorem dX5_hum_8 : decode cX5_hum 8 = .ok (.ireturn, 1) := by decide +kernel
theorem dX5_hum_9 : decode cX5_hum 9 = .ok (.aload_n 0, 1) := by decide +kernel
theorem dX5_hum_10 : decode cX5_hum 10 = .ok (.iload_n 1, 1) := by decide +kernel
theorem dX5_hum_11 : decode cX5_hum 11 = .ok (.iconst 1, 1) := by decide +kernel
theorem dX5_hum_12 : decode cX5_hum 12 = .ok (.invokevirtual 81, 3) := by decide +kernel
theorem dX5_hum_15 : decode cX5_hum 15 = .ok (.istore_n 2, 1) := by decide +kernel
theorem dX5_hum_16 : decode cX5_hum 16 = .ok (.iload_n 2, 1) := by decide +kernel
theorem dX5_hum_17 : decode cX5_hum 17 = .ok (.ifCond .le 11, 3) := by decide +kernel
theorem dX5_hum_20 : decode cX5_hum 20 = .ok (.aload_n 0, 1) := by decide +kernel
theorem dX5_hum_21 : decode cX5_hum 21 = .ok (.iload_n 2, 1) := by decide +kernel
theorem dX5_hum_22 : decode cX5_hum 22 = .ok (.invokevirtual 75, 3) := by decide +kernel
theorem dX5_hum_25 : decode cX5_hum 25 = .ok (.goto 14, 3) := by decide +kernel
theorem dX5_hum_28 : decode cX5_hum 28 = .ok (.aload_n 0, 1) := by decide +kernel
theorem dX5_hum_29 : decode cX5_hum 29 = .ok (.getfield 25, 3) := by decide +kernel
theorem dX5_hum_32 : decode cX5_hum 32 = .ok (.aload_n 0, 1) := by decide +kernel
theorem dX5_hum_33 : decode cX5_hum 33 = .ok (.getfield 31, 3) := by decide +kernel
theorem dX5_hum_36 : decode cX5_hum 36 = .ok (.iload_n 1, 1) := by decide +kernel
theorem dX5_hum_37 : decode cX5_hum 37 = .ok (.iaload, 1) := by decide +kernel
theorem dX5_hum_38 : decode cX5_hum 38 = .ok (.iaload, 1) := by decide +kernel
theorem dX5_hum_39 : decode cX5_hum 39 = .ok (.ireturn, 1) := by decide +kernel
set_option maxRecDepth 20000 in
theorem ggX5_tune_X5_isHook : GoodIn wsX5_tune wsX5_isHook := goodIn_r _ [6, 7, 8, 5, 9] (by decide +kernel) (by decide +kernel)
set_option maxRecDepth 20000 in
theorem gX5_tune_X5_isHook : GoodIn wsX5_tune (va_wsS RX5 68 yX5_isHook wsX5_isHook) := goodIn_app (goodIn_of _ (by decide +kernel)) ggX5_tune_X5_isHook
set_option maxRecDepth 20000 in
theorem ggX5_tune_X5_in : GoodIn wsX5_tune wsX5_in := goodIn_r _ [9] (by decide +kernel) (by decide +kernel)
set_option maxRecDepth 20000 in
theorem gX5_tune_X5_in : GoodIn wsX5_tune (va_wsS RX5 56 yX5_in wsX5_in) := goodIn_app (goodIn_of _ (by decide +kernel)) ggX5_tune_X5_in
set_option maxRecDepth 20000 in
theorem ggX5_tune_X5_against : GoodIn wsX5_tune wsX5_against := goodIn_r _ [13, 14, 15, 16, 5, 17, 2, 18, 24, 25, 26, 27, 28, 29, 30, 31, 32, 33, 34, 35, 36, 37, 38, 39, 40, 41] (by decide +kernel) (by decide +kernel)
set_option maxRecDepth 20000 in
theorem gX5_tune_X5_against : GoodIn wsX5_tune (wsV RX5 81 RX5 yX5_against wsX5_against) := goodIn_app (goodIn_of _ (by decide +kernel)) ggX5_tune_X5_against
set_option maxRecDepth 20000 in
theorem ggX5_tune_X5_no : GoodIn wsX5_tune wsX5_no := goodIn_r _ [22, 23, 24, 25, 26, 27, 28, 29, 30, 31, 32, 33, 34, 35, 36, 37, 38, 39, 40, 41] (by decide +kernel) (by decide +kernel)
set_option maxRecDepth 20000 in
theorem gX5_tune_X5_no : GoodIn wsX5_tune (wsV RX5 75 RX5 yX5_no wsX5_no) := goodIn_app (goodIn_of _ (by decide +kernel)) ggX5_tune_X5_no
theorem dX5_tune_0 : decode cX5_tune 0 = .ok (.iload_n 1, 1) := by decide +kernel
theorem dX5_tune_1 : decode cX5_tune 1 = .ok (.invokestatic 68, 3) := by decide +kernel
theorem dX5_tune_4 : decode cX5_tune 4 = .ok (.ifCond .eq 14, 3) := by decide +kernel
theorem dX5_tune_7 : decode cX5_tune 7 = .ok (.iload_n 2, 1) := by decide +kernel
theorem dX5_tune_8 : decode cX5_tune 8 = .ok (.iconst 0, 1) := by decide +kernel
theorem dX5_tune_9 : decode cX5_tune 9 = .ok (.sipush 1000, 3) := by decide +kernel
theorem dX5_tune_12 : decode cX5_tune 12 = .ok (.invokestatic 56, 3) := by decide +kernel
theorem dX5_tune_15 : decode cX5_tune 15 = .ok (.ifCond .ne 5, 3) := by decide +kernel
theorem dX5_tune_18 : decode cX5_tune 18 = .ok (.iconst (-1), 1) := by decide +kernel
theorem dX5_tune_19 : decode cX5_tune 19 = .ok (.ireturn, 1) := by decide +kernel
theorem dX5_tune_20 : decode cX5_tune 20 = .ok (.aload_n 0, 1) := by decide +kernel
theorem dX5_tune_21 : decode cX5_tune 21 = .ok (.iload_n 1, 1) := by decide +kernel
theorem dX5_tune_22 : decode cX5_tune 22 = .ok (.iconst 1, 1) := by decide +kernel
theorem dX5_tune_23 : decode cX5_tune 23 = .ok (.invokevirtual 81, 3) := by decide +kernel
theorem dX5_tune_26 : decode cX5_tune 26 = .ok (.istore_n 3, 1) := by decide +kernel
theorem dX5_tune_27 : decode cX5_tune 27 = .ok (.iload_n 3, 1) := by decide +kernel
theorem dX5_tune_28 : decode cX5_tune 28 = .ok (.ifCond .le 9, 3) := by decide +kernel
theorem dX5_tune_31 : decode cX5_tune 31 = .ok (.aload_n 0, 1) := by decide +kernel
theorem dX5_tune_32 : decode cX5_tune 32 = .ok (.iload_n 3, 1) := by decide +kernel
theorem dX5_tune_33 : decode cX5_tune 33 = .ok (.invokevirtual 75, 3) := by decide +kernel
theorem dX5_tune_36 : decode cX5_tune 36 = .ok (.ireturn, 1) := by decide +kernel
theorem dX5_tune_37 : decode cX5_tune 37 = .ok (.aload_n 0, 1) := by decide +kernel
theorem dX5_tune_38 : decode cX5_tune 38 = .ok (.getfield 25, 3) := by decide +kernel
theorem dX5_tune_41 : decode cX5_tune 41 = .ok (.aload_n 0, 1) := by decide +kernel
theorem dX5_tune_42 : decode cX5_tune 42 = .ok (.getfield 31, 3) := by decide +kernel
theorem dX5_tune_45 : decode cX5_tune 45 = .ok (.iload_n 1, 1) := by decide +kernel
theorem dX5_tune_46 : decode cX5_tune 46 = .ok (.iaload, 1) := by decide +kernel
theorem dX5_tune_47 : decode cX5_tune 47 = .ok (.iload_n 2, 1) := by decide +kernel
theorem dX5_tune_48 : decode cX5_tune 48 = .ok (.iastore, 1) := by decide +kernel
theorem dX5_tune_49 : decode cX5_tune 49 = .ok (.iload_n 2, 1) := by decide +kernel
theorem dX5_tune_50 : decode cX5_tune 50 = .ok (.ireturn, 1) := by decide +kernel
set_option maxRecDepth 20000 in
theorem ggX5_fit_X5_isHook : GoodIn wsX5_fit wsX5_isHook := goodIn_r _ [6, 7, 8, 5, 9] (by decide +kernel) (by decide +kernel)
set_option maxRecDepth 20000 in
theorem gX5_fit_X5_isHook : GoodIn wsX5_fit (va_wsS RX5 68 yX5_isHook wsX5_isHook) := goodIn_app (goodIn_of _ (by decide +kernel)) ggX5_fit_X5_isHook
set_option maxRecDepth 20000 in
theorem ggX5_fit_X5_sortAt : GoodIn wsX5_fit wsX5_sortAt := goodIn_r _ [13, 1, 14, 24, 25, 26, 27, 28, 29, 30, 31, 32, 33, 34, 35, 36, 37, 38, 39, 40, 41] (by decide +kernel) (by decide +kernel)
set_option maxRecDepth 20000 in
theorem gX5_fit_X5_sortAt : GoodIn wsX5_fit (wsV RX5 64 RX5 yX5_sortAt wsX5_sortAt) := goodIn_app (goodIn_of _ (by decide +kernel)) ggX5_fit_X5_sortAt
set_option maxRecDepth 20000 in
theorem ggX5_fit_X5_isBellAt : GoodIn wsX5_fit wsX5_isBellAt := goodIn_r _ [18, 10, 11, 12, 5, 13, 1, 14, 7, 8, 9, 24, 25, 26, 27, 28, 29, 30, 31, 32, 33, 34, 35, 36, 37, 38, 39, 40, 41] (by decide +kernel) (by decide +kernel)
set_option maxRecDepth 20000 in
theorem gX5_fit_X5_isBellAt : GoodIn wsX5_fit (wsV RX5 88 RX5 yX5_isBellAt wsX5_isBellAt) := goodIn_app (goodIn_of _ (by decide +kernel)) ggX5_fit_X5_isBellAt
set_option maxRecDepth 20000 in
theorem ggX5_fit_X5_no : GoodIn wsX5_fit wsX5_no := goodIn_r _ [22, 23, 24, 25, 26, 27, 28, 29, 30, 31, 32, 33, 34, 35, 36, 37, 38, 39, 40, 41] (by decide +kernel) (by decide +kernel)
set_option maxRecDepth 20000 in
theorem gX5_fit_X5_no : GoodIn wsX5_fit (wsV RX5 75 RX5 yX5_no wsX5_no) := goodIn_app (goodIn_of _ (by decide +kernel)) ggX5_fit_X5_no
theorem dX5_fit_0 : decode cX5_fit 0 = .ok (.iload_n 1, 1) := by decide +kernel
theorem dX5_fit_1 : decode cX5_fit 1 = .ok (.invokestatic 68, 3) := by decide +kernel
theorem dX5_fit_4 : decode cX5_fit 4 = .ok (.ifCond .eq 10, 3) := by decide +kernel
theorem dX5_fit_7 : decode cX5_fit 7 = .ok (.iload_n 2, 1) := by decide +kernel
theorem dX5_fit_8 : decode cX5_fit 8 = .ok (.invokestatic 68, 3) := by decide +kernel
theorem dX5_fit_11 : decode cX5_fit 11 = .ok (.ifCond .ne 5, 3) := by decide +kernel
theorem dX5_fit_14 : decode cX5_fit 14 = .ok (.iconst (-1), 1) := by decide +kernel
theorem dX5_fit_15 : decode cX5_fit 15 = .ok (.ireturn, 1) := by decide +kernel
theorem dX5_fit_16 : decode cX5_fit 16 = .ok (.aload_n 0, 1) := by decide +kernel
theorem dX5_fit_17 : decode cX5_fit 17 = .ok (.iload_n 1, 1) := by decide +kernel
theorem dX5_fit_18 : decode cX5_fit 18 = .ok (.invokevirtual 64, 3) := by decide +kernel
theorem dX5_fit_21 : decode cX5_fit 21 = .ok (.iconst 3, 1) := by decide +kernel
theorem dX5_fit_22 : decode cX5_fit 22 = .ok (.if_icmp .eq 11, 3) := by decide +kernel
theorem dX5_fit_25 : decode cX5_fit 25 = .ok (.aload_n 0, 1) := by decide +kernel
theorem dX5_fit_26 : decode cX5_fit 26 = .ok (.iload_n 2, 1) := by decide +kernel
theorem dX5_fit_27 : decode cX5_fit 27 = .ok (.invokevirtual 88, 3) := by decide +kernel
theorem dX5_fit_30 : decode cX5_fit 30 = .ok (.ifCond .eq 9, 3) := by decide +kernel
theorem dX5_fit_33 : decode cX5_fit 33 = .ok (.aload_n 0, 1) := by decide +kernel
theorem dX5_fit_34 : decode cX5_fit 34 = .ok (.iconst 2, 1) := by decide +kernel
theorem dX5_fit_35 : decode cX5_fit 35 = .ok (.invokevirtual 75, 3) := by decide +kernel
theorem dX5_fit_38 : decode cX5_fit 38 = .ok (.ireturn, 1) := by decide +kernel
theorem dX5_fit_39 : decode cX5_fit 39 = .ok (.aload_n 0, 1) := by decide +kernel
theorem dX5_fit_40 : decode cX5_fit 40 = .ok (.getfield 31, 3) := by decide +kernel
theorem dX5_fit_43 : decode cX5_fit 43 = .ok (.iload_n 1, 1) := by decide +kernel
theorem dX5_fit_44 : decode cX5_fit 44 = .ok (.iaload, 1) := by decide +kernel
theorem dX5_fit_45 : decode cX5_fit 45 = .ok (.iconst (-1), 1) := by decide +kernel
theorem dX5_fit_46 : decode cX5_fit 46 = .ok (.if_icmp .ne 9, 3) := by decide +kernel
theorem dX5_fit_49 : decode cX5_fit 49 = .ok (.aload_n 0, 1) := by decide +kernel
theorem dX5_fit_50 : decode cX5_fit 50 = .ok (.iconst 1, 1) := by decide +kernel
theorem dX5_fit_51 : decode cX5_fit 51 = .ok (.invokevirtual 75, 3) := by decide +kernel
theorem dX5_fit_54 : decode cX5_fit 54 = .ok (.ireturn, 1) := by decide +kernel
theorem dX5_fit_55 : decode cX5_fit 55 = .ok (.aload_n 0, 1) := by decide +kernel
theorem dX5_fit_56 : decode cX5_fit 56 = .ok (.getfield 19, 3) := by decide +kernel
theorem dX5_fit_59 : decode cX5_fit 59 = .ok (.aload_n 0, 1) := by decide +kernel
theorem dX5_fit_60 : decode cX5_fit 60 = .ok (.getfield 31, 3) := by decide +kernel
theorem dX5_fit_63 : decode cX5_fit 63 = .ok (.iload_n 1, 1) := by decide +kernel
theorem dX5_fit_64 : decode cX5_fit 64 = .ok (.iaload, 1) := by decide +kernel
theorem dX5_fit_65 : decode cX5_fit 65 = .ok (.aload_n 0, 1) := by decide +kernel
theorem dX5_fit_66 : decode cX5_fit 66 = .ok (.getfield 31, 3) := by decide +kernel
theorem dX5_fit_69 : decode cX5_fit 69 = .ok (.iload_n 2, 1) := by decide +kernel
theorem dX5_fit_70 : decode cX5_fit 70 = .ok (.iaload, 1) := by decide +kernel
theorem dX5_fit_71 : decode cX5_fit 71 = .ok (.iastore, 1) := by decide +kernel
theorem dX5_fit_72 : decode cX5_fit 72 = .ok (.aload_n 0, 1) := by decide +kernel
theorem dX5_fit_73 : decode cX5_fit 73 = .ok (.getfield 31, 3) := by decide +kernel
theorem dX5_fit_76 : decode cX5_fit 76 = .ok (.iload_n 2, 1) := by decide +kernel
theorem dX5_fit_77 : decode cX5_fit 77 = .ok (.iconst (-1), 1) := by decide +kernel
theorem dX5_fit_78 : decode cX5_fit 78 = .ok (.iastore, 1) := by decide +kernel
theorem dX5_fit_79 : decode cX5_fit 79 = .ok (.aload_n 0, 1) := by decide +kernel
theorem dX5_fit_80 : decode cX5_fit 80 = .ok (.getfield 19, 3) := by decide +kernel
theorem dX5_fit_83 : decode cX5_fit 83 = .ok (.aload_n 0, 1) := by decide +kernel
theorem dX5_fit_84 : decode cX5_fit 84 = .ok (.getfield 31, 3) := by decide +kernel
theorem dX5_fit_87 : decode cX5_fit 87 = .ok (.iload_n 1, 1) := by decide +kernel
theorem dX5_fit_88 : decode cX5_fit 88 = .ok (.iaload, 1) := by decide +kernel
theorem dX5_fit_89 : decode cX5_fit 89 = .ok (.iaload, 1) := by decide +kernel
theorem dX5_fit_90 : decode cX5_fit 90 = .ok (.iconst (-1), 1) := by decide +kernel
theorem dX5_fit_91 : decode cX5_fit 91 = .ok (.if_icmp .ne 7, 3) := by decide +kernel
theorem dX5_fit_94 : decode cX5_fit 94 = .ok (.iconst 0, 1) := by decide +kernel
theorem dX5_fit_95 : decode cX5_fit 95 = .ok (.goto 4, 3) := by decide +kernel
theorem dX5_fit_98 : decode cX5_fit 98 = .ok (.iconst 1, 1) := by decide +kernel
theorem dX5_fit_99 : decode cX5_fit 99 = .ok (.ireturn, 1) := by decide +kernel
set_option maxRecDepth 20000 in
theorem ggX5_alarm_X5_isHook : GoodIn wsX5_alarm wsX5_isHook := goodIn_r _ [6, 7, 8, 5, 9] (by decide +kernel) (by decide +kernel)
set_option maxRecDepth 20000 in
theorem gX5_alarm_X5_isHook : GoodIn wsX5_alarm (va_wsS RX5 68 yX5_isHook wsX5_isHook) := goodIn_app (goodIn_of _ (by decide +kernel)) ggX5_alarm_X5_isHook
set_option maxRecDepth 20000 in
theorem ggX5_alarm_X5_in : GoodIn wsX5_alarm wsX5_in := goodIn_r _ [9] (by decide +kernel) (by decide +kernel)
set_option maxRecDepth 20000 in
theorem gX5_alarm_X5_in : GoodIn wsX5_alarm (va_wsS RX5 56 yX5_in wsX5_in) := goodIn_app (goodIn_of _ (by decide +kernel)) ggX5_alarm_X5_in
set_option maxRecDepth 20000 in
theorem ggX5_alarm_X5_against : GoodIn wsX5_alarm wsX5_against := goodIn_r _ [13, 14, 15, 16, 5, 17, 2, 18, 24, 25, 26, 27, 28, 29, 30, 31, 32, 33, 34, 35, 36, 37, 38, 39, 40, 41] (by decide +kernel) (by decide +kernel)
set_option maxRecDepth 20000 in
theorem gX5_alarm_X5_against : GoodIn wsX5_alarm (wsV RX5 81 RX5 yX5_against wsX5_against) := goodIn_app (goodIn_of _ (by decide +kernel)) ggX5_alarm_X5_against
set_option maxRecDepth 20000 in
theorem ggX5_alarm_X5_no : GoodIn wsX5_alarm wsX5_no := goodIn_r _ [22, 23, 24, 25, 26, 27, 28, 29, 30, 31, 32, 33, 34, 35, 36, 37, 38, 39, 40, 41] (by decide +kernel) (by decide +kernel)
set_option maxRecDepth 20000 in
theorem gX5_alarm_X5_no : GoodIn wsX5_alarm (wsV RX5 75 RX5 yX5_no wsX5_no) := goodIn_app (goodIn_of _ (by decide +kernel)) ggX5_alarm_X5_no
theorem dX5_alarm_0 : decode cX5_alarm 0 = .ok (.iload_n 1, 1) := by decide +kernel
theorem dX5_alarm_1 : decode cX5_alarm 1 = .ok (.invokestatic 68, 3) := by decide +kernel
theorem dX5_alarm_4 : decode cX5_alarm 4 = .ok (.ifCond .eq 13, 3) := by decide +kernel
theorem dX5_alarm_7 : decode cX5_alarm 7 = .ok (.iload_n 2, 1) := by decide +kernel
theorem dX5_alarm_8 : decode cX5_alarm 8 = .ok (.iconst 0, 1) := by decide +kernel
theorem dX5_alarm_9 : decode cX5_alarm 9 = .ok (.bipush 9, 2) := by decide +kernel
theorem dX5_alarm_11 : decode cX5_alarm 11 = .ok (.invokestatic 56, 3) := by decide +kernel
theorem dX5_alarm_14 : decode cX5_alarm 14 = .ok (.ifCond .ne 5, 3) := by decide +kernel
theorem dX5_alarm_17 : decode cX5_alarm 17 = .ok (.iconst (-1), 1) := by decide +kernel
theorem dX5_alarm_18 : decode cX5_alarm 18 = .ok (.ireturn, 1) := by decide +kernel
theorem dX5_alarm_19 : decode cX5_alarm 19 = .ok (.aload_n 0, 1) := by decide +kernel
theorem dX5_alarm_20 : decode cX5_alarm 20 = .ok (.iload_n 1, 1) := by decide +kernel
theorem dX5_alarm_21 : decode cX5_alarm 21 = .ok (.iconst 0, 1) := by decide +kernel
theorem dX5_alarm_22 : decode cX5_alarm 22 = .ok (.invokevirtual 81, 3) := by decide +kernel
theorem dX5_alarm_25 : decode cX5_alarm 25 = .ok (.istore_n 3, 1) := by decide +kernel
theorem dX5_alarm_26 : decode cX5_alarm 26 = .ok (.iload_n 3, 1) := by decide +kernel
theorem dX5_alarm_27 : decode cX5_alarm 27 = .ok (.ifCond .le 9, 3) := by decide +kernel
theorem dX5_alarm_30 : decode cX5_alarm 30 = .ok (.aload_n 0, 1) := by decide +kernel
theorem dX5_alarm_31 : decode cX5_alarm 31 = .ok (.iload_n 3, 1) := by decide +kernel
theorem dX5_alarm_32 : decode cX5_alarm 32 = .ok (.invokevirtual 75, 3) := by decide +kernel
theorem dX5_alarm_35 : decode cX5_alarm 35 = .ok (.ireturn, 1) := by decide +kernel
theorem dX5_alarm_36 : decode cX5_alarm 36 = .ok (.aload_n 0, 1) := by decide +kernel
theorem dX5_alarm_37 : decode cX5_alarm 37 = .ok (.getfield 22, 3) := by decide +kernel
theorem dX5_alarm_40 : decode cX5_alarm 40 = .ok (.aload_n 0, 1) := by decide +kernel
theorem dX5_alarm_41 : decode cX5_alarm 41 = .ok (.getfield 31, 3) := by decide +kernel
theorem dX5_alarm_44 : decode cX5_alarm 44 = .ok (.iload_n 1, 1) := by decide +kernel
theorem dX5_alarm_45 : decode cX5_alarm 45 = .ok (.iaload, 1) := by decide +kernel
theorem dX5_alarm_46 : decode cX5_alarm 46 = .ok (.iaload, 1) := by decide +kernel
theorem dX5_alarm_47 : decode cX5_alarm 47 = .ok (.istore 4, 2) := by decide +kernel
theorem dX5_alarm_49 : decode cX5_alarm 49 = .ok (.aload_n 0, 1) := by decide +kernel
theorem dX5_alarm_50 : decode cX5_alarm 50 = .ok (.getfield 22, 3) := by decide +kernel
