set_option maxRecDepth 20000 in
theorem ggX6_gainsaid_X6_goThroughWorlds : GoodIn wsX6_gainsaid wsX6_goThroughWorlds := goodIn_r _ [9, 10, 4, 1, 3, 11, 12, 13, 8, 14, 2, 15, 16, 17, 18, 19, 20, 21, 22, 23, 24, 25, 26, 27, 28, 29, 30, 31, 32, 33, 34, 35, 36, 37, 38, 39, 40, 41, 42, 43, 44, 45, 46, 47, 48, 49, 50, 51, 52, 53, 54, 55, 56, 57, 58, 59, 60, 61, 62, 63, 64, 65, 66, 67, 68, 69, 70, 71, 72, 73, 74, 75, 76, 77, 78, 79, 80, 81, 82, 83, 84, 85, 86, 87, 88, 89, 90, 91, 92, 93, 94, 95, 96, 97, 98, 103, 104, 105, 106, 107, 108, 109, 110, 111, 112, 113, 114, 115, 116, 117, 118, 119, 120, 121, 122, 123, 124, 125, 126, 127, 128, 129, 130, 131, 132] (by decide +kernel) (by decide +kernel)
set_option maxRecDepth 20000 in
theorem gX6_gainsaid_X6_goThroughWorlds : GoodIn wsX6_gainsaid (wsV RX6 119 RX6 yX6_goThroughWorlds wsX6_goThroughWorlds) := goodIn_app (goodIn_of _ (by decide +kernel)) ggX6_gainsaid_X6_goThroughWorlds
set_option maxRecDepth 20000 in
theorem ggX6_gainsaid_X5_isEver : GoodIn wsX6_gainsaid wsX5_isEver := goodIn_r _ [102, 36, 37, 128, 129, 130, 131, 132] (by decide +kernel) (by decide +kernel)
set_option maxRecDepth 20000 in
theorem gX6_gainsaid_X5_isEver : GoodIn wsX6_gainsaid (wsV RX6 129 RX5 yX5_isEver wsX5_isEver) := goodIn_app (goodIn_of _ (by decide +kernel)) ggX6_gainsaid_X5_isEver
theorem dX6_gainsaid_0 : decode cX6_gainsaid 0 = .ok (.aload_n 0, 1) := by decide +kernel
theorem dX6_gainsaid_1 : decode cX6_gainsaid 1 = .ok (.invokevirtual 119, 3) := by decide +kernel
theorem dX6_gainsaid_4 : decode cX6_gainsaid 4 = .ok (.ifCond .ne 6, 3) := by decide +kernel
theorem dX6_gainsaid_7 : decode cX6_gainsaid 7 = .ok (.bipush (-2), 2) := by decide +kernel
theorem dX6_gainsaid_9 : decode cX6_gainsaid 9 = .ok (.ireturn, 1) := by decide +kernel
theorem dX6_gainsaid_10 : decode cX6_gainsaid 10 = .ok (.iconst 0, 1) := by decide +kernel
theorem dX6_gainsaid_11 : decode cX6_gainsaid 11 = .ok (.istore_n 1, 1) := by decide +kernel
theorem dX6_gainsaid_12 : decode cX6_gainsaid 12 = .ok (.iload_n 1, 1) := by decide +kernel
theorem dX6_gainsaid_13 : decode cX6_gainsaid 13 = .ok (.aload_n 0, 1) := by decide +kernel
theorem dX6_gainsaid_14 : decode cX6_gainsaid 14 = .ok (.getfield 23, 3) := by decide +kernel
theorem dX6_gainsaid_17 : decode cX6_gainsaid 17 = .ok (.getfield 66, 3) := by decide +kernel
theorem dX6_gainsaid_20 : decode cX6_gainsaid 20 = .ok (.if_icmp .ge 40, 3) := by decide +kernel
theorem dX6_gainsaid_23 : decode cX6_gainsaid 23 = .ok (.aload_n 0, 1) := by decide +kernel
theorem dX6_gainsaid_24 : decode cX6_gainsaid 24 = .ok (.getfield 30, 3) := by decide +kernel
theorem dX6_gainsaid_27 : decode cX6_gainsaid 27 = .ok (.iload_n 1, 1) := by decide +kernel
theorem dX6_gainsaid_28 : decode cX6_gainsaid 28 = .ok (.iaload, 1) := by decide +kernel
theorem dX6_gainsaid_29 : decode cX6_gainsaid 29 = .ok (.iconst 2, 1) := by decide +kernel
theorem dX6_gainsaid_30 : decode cX6_gainsaid 30 = .ok (.if_icmp .ge 24, 3) := by decide +kernel
theorem dX6_gainsaid_33 : decode cX6_gainsaid 33 = .ok (.aload_n 0, 1) := by decide +kernel
theorem dX6_gainsaid_34 : decode cX6_gainsaid 34 = .ok (.getfield 43, 3) := by decide +kernel
theorem dX6_gainsaid_37 : decode cX6_gainsaid 37 = .ok (.iload_n 1, 1) := by decide +kernel
theorem dX6_gainsaid_38 : decode cX6_gainsaid 38 = .ok (.iconst 1, 1) := by decide +kernel
theorem dX6_gainsaid_39 : decode cX6_gainsaid 39 = .ok (.aload_n 0, 1) := by decide +kernel
theorem dX6_gainsaid_40 : decode cX6_gainsaid 40 = .ok (.getfield 30, 3) := by decide +kernel
theorem dX6_gainsaid_43 : decode cX6_gainsaid 43 = .ok (.iload_n 1, 1) := by decide +kernel
theorem dX6_gainsaid_44 : decode cX6_gainsaid 44 = .ok (.iaload, 1) := by decide +kernel
theorem dX6_gainsaid_45 : decode cX6_gainsaid 45 = .ok (.isub, 1) := by decide +kernel
theorem dX6_gainsaid_46 : decode cX6_gainsaid 46 = .ok (.invokevirtual 129, 3) := by decide +kernel
theorem dX6_gainsaid_49 : decode cX6_gainsaid 49 = .ok (.ifCond .eq 5, 3) := by decide +kernel
theorem dX6_gainsaid_52 : decode cX6_gainsaid 52 = .ok (.iload_n 1, 1) := by decide +kernel
theorem dX6_gainsaid_53 : decode cX6_gainsaid 53 = .ok (.ireturn, 1) := by decide +kernel
theorem dX6_gainsaid_54 : decode cX6_gainsaid 54 = .ok (.iinc 1 1, 3) := by decide +kernel
theorem dX6_gainsaid_57 : decode cX6_gainsaid 57 = .ok (.goto (-45), 3) := by decide +kernel
theorem dX6_gainsaid_60 : decode cX6_gainsaid 60 = .ok (.iconst (-1), 1) := by decide +kernel
theorem dX6_gainsaid_61 : decode cX6_gainsaid 61 = .ok (.ireturn, 1) := by decide +kernel
set_option maxRecDepth 20000 in
theorem ggX6_flicker_X0_isKind : GoodIn wsX6_flicker wsX0_isKind := goodIn_r _ [10, 11, 12, 13, 14, 9, 15, 16, 82, 83, 84, 85, 86, 87, 88, 89, 90, 91, 92, 93, 94] (by decide +kernel) (by decide +kernel)
set_option maxRecDepth 20000 in
theorem gX6_flicker_X0_isKind : GoodIn wsX6_flicker (wsV RX6 105 RX0 yX0_isKind wsX0_isKind) := goodIn_app (goodIn_of _ (by decide +kernel)) ggX6_flicker_X0_isKind
set_option maxRecDepth 20000 in
theorem ggX6_flicker_X6_settleWith : GoodIn wsX6_flicker wsX6_settleWith := goodIn_r _ [21, 2, 22, 23, 24, 25, 1, 26, 27, 28, 29, 30, 31, 32, 33, 34, 35, 36, 37, 38, 39, 40, 41, 42, 9, 43, 44, 45, 46, 47, 48, 49, 50, 51, 11, 52, 53, 54, 55, 56, 57, 58, 59, 60, 61, 62, 63, 64, 65, 66, 67, 68, 69, 70, 71, 72, 73, 74, 75, 76, 77, 78, 79, 80, 81, 82, 83, 84, 85, 86, 87, 88, 89, 90, 91, 92, 93, 94] (by decide +kernel) (by decide +kernel)
set_option maxRecDepth 20000 in
theorem gX6_flicker_X6_settleWith : GoodIn wsX6_flicker (wsV RX6 132 RX6 yX6_settleWith wsX6_settleWith) := goodIn_app (goodIn_of _ (by decide +kernel)) ggX6_flicker_X6_settleWith
theorem dX6_flicker_0 : decode cX6_flicker 0 = .ok (.aload_n 0, 1) := by decide +kernel
theorem dX6_flicker_1 : decode cX6_flicker 1 = .ok (.getfield 23, 3) := by decide +kernel
theorem dX6_flicker_4 : decode cX6_flicker 4 = .ok (.iload_n 1, 1) := by decide +kernel
theorem dX6_flicker_5 : decode cX6_flicker 5 = .ok (.iconst 0, 1) := by decide +kernel
theorem dX6_flicker_6 : decode cX6_flicker 6 = .ok (.invokevirtual 105, 3) := by decide +kernel
theorem dX6_flicker_9 : decode cX6_flicker 9 = .ok (.ifCond .eq 17, 3) := by decide +kernel
theorem dX6_flicker_12 : decode cX6_flicker 12 = .ok (.aload_n 0, 1) := by decide +kernel
theorem dX6_flicker_13 : decode cX6_flicker 13 = .ok (.getfield 30, 3) := by decide +kernel
theorem dX6_flicker_16 : decode cX6_flicker 16 = .ok (.iload_n 1, 1) := by decide +kernel
theorem dX6_flicker_17 : decode cX6_flicker 17 = .ok (.iaload, 1) := by decide +kernel
theorem dX6_flicker_18 : decode cX6_flicker 18 = .ok (.iconst 2, 1) := by decide +kernel
theorem dX6_flicker_19 : decode cX6_flicker 19 = .ok (.if_icmp .ge 7, 3) := by decide +kernel
theorem dX6_flicker_22 : decode cX6_flicker 22 = .ok (.iload_n 2, 1) := by decide +kernel
theorem dX6_flicker_23 : decode cX6_flicker 23 = .ok (.ifCond .ge 5, 3) := by decide +kernel
theorem dX6_flicker_26 : decode cX6_flicker 26 = .ok (.iconst (-1), 1) := by decide +kernel
theorem dX6_flicker_27 : decode cX6_flicker 27 = .ok (.ireturn, 1) := by decide +kernel
theorem dX6_flicker_28 : decode cX6_flicker 28 = .ok (.aload_n 0, 1) := by decide +kernel
theorem dX6_flicker_29 : decode cX6_flicker 29 = .ok (.aload_n 0, 1) := by decide +kernel
theorem dX6_flicker_30 : decode cX6_flicker 30 = .ok (.getfield 34, 3) := by decide +kernel
theorem dX6_flicker_33 : decode cX6_flicker 33 = .ok (.iload_n 1, 1) := by decide +kernel
theorem dX6_flicker_34 : decode cX6_flicker 34 = .ok (.iconst 1, 1) := by decide +kernel
theorem dX6_flicker_35 : decode cX6_flicker 35 = .ok (.aload_n 0, 1) := by decide +kernel
theorem dX6_flicker_36 : decode cX6_flicker 36 = .ok (.getfield 30, 3) := by decide +kernel
theorem dX6_flicker_39 : decode cX6_flicker 39 = .ok (.iload_n 1, 1) := by decide +kernel
theorem dX6_flicker_40 : decode cX6_flicker 40 = .ok (.iaload, 1) := by decide +kernel
theorem dX6_flicker_41 : decode cX6_flicker 41 = .ok (.isub, 1) := by decide +kernel
theorem dX6_flicker_42 : decode cX6_flicker 42 = .ok (.invokevirtual 132, 3) := by decide +kernel
theorem dX6_flicker_45 : decode cX6_flicker 45 = .ok (.aload_n 0, 1) := by decide +kernel
theorem dX6_flicker_46 : decode cX6_flicker 46 = .ok (.aload_n 0, 1) := by decide +kernel
theorem dX6_flicker_47 : decode cX6_flicker 47 = .ok (.getfield 37, 3) := by decide +kernel
theorem dX6_flicker_50 : decode cX6_flicker 50 = .ok (.iload_n 1, 1) := by decide +kernel
theorem dX6_flicker_51 : decode cX6_flicker 51 = .ok (.iconst 2, 1) := by decide +kernel
theorem dX6_flicker_52 : decode cX6_flicker 52 = .ok (.invokevirtual 132, 3) := by decide +kernel
theorem dX6_flicker_55 : decode cX6_flicker 55 = .ok (.iload_n 2, 1) := by decide +kernel
theorem dX6_flicker_56 : decode cX6_flicker 56 = .ok (.istore_n 3, 1) := by decide +kernel
theorem dX6_flicker_57 : decode cX6_flicker 57 = .ok (.iconst 0, 1) := by decide +kernel
theorem dX6_flicker_58 : decode cX6_flicker 58 = .ok (.istore 4, 2) := by decide +kernel
theorem dX6_flicker_60 : decode cX6_flicker 60 = .ok (.iload 4, 2) := by decide +kernel
theorem dX6_flicker_62 : decode cX6_flicker 62 = .ok (.aload_n 0, 1) := by decide +kernel
theorem dX6_flicker_63 : decode cX6_flicker 63 = .ok (.getfield 23, 3) := by decide +kernel
theorem dX6_flicker_66 : decode cX6_flicker 66 = .ok (.getfield 66, 3) := by decide +kernel
theorem dX6_flicker_69 : decode cX6_flicker 69 = .ok (.if_icmp .ge 58, 3) := by decide +kernel
theorem dX6_flicker_72 : decode cX6_flicker 72 = .ok (.aload_n 0, 1) := by decide +kernel
theorem dX6_flicker_73 : decode cX6_flicker 73 = .ok (.getfield 30, 3) := by decide +kernel
theorem dX6_flicker_76 : decode cX6_flicker 76 = .ok (.iload 4, 2) := by decide +kernel
theorem dX6_flicker_78 : decode cX6_flicker 78 = .ok (.iaload, 1) := by decide +kernel
theorem dX6_flicker_79 : decode cX6_flicker 79 = .ok (.iconst 2, 1) := by decide +kernel
theorem dX6_flicker_80 : decode cX6_flicker 80 = .ok (.if_icmp .ge 41, 3) := by decide +kernel
theorem dX6_flicker_83 : decode cX6_flicker 83 = .ok (.aload_n 0, 1) := by decide +kernel
theorem dX6_flicker_84 : decode cX6_flicker 84 = .ok (.getfield 34, 3) := by decide +kernel
theorem dX6_flicker_87 : decode cX6_flicker 87 = .ok (.iload 4, 2) := by decide +kernel
theorem dX6_flicker_89 : decode cX6_flicker 89 = .ok (.iaload, 1) := by decide +kernel
theorem dX6_flicker_90 : decode cX6_flicker 90 = .ok (.aload_n 0, 1) := by decide +kernel
theorem dX6_flicker_91 : decode cX6_flicker 91 = .ok (.getfield 30, 3) := by decide +kernel
theorem dX6_flicker_94 : decode cX6_flicker 94 = .ok (.iload 4, 2) := by decide +kernel
theorem dX6_flicker_96 : decode cX6_flicker 96 = .ok (.iaload, 1) := by decide +kernel
theorem dX6_flicker_97 : decode cX6_flicker 97 = .ok (.if_icmp .ne 24, 3) := by decide +kernel
theorem dX6_flicker_100 : decode cX6_flicker 100 = .ok (.aload_n 0, 1) := by decide +kernel
theorem dX6_flicker_101 : decode cX6_flicker 101 = .ok (.getfield 37, 3) := by decide +kernel
theorem dX6_flicker_104 : decode cX6_flicker 104 = .ok (.iload 4, 2) := by decide +kernel
theorem dX6_flicker_106 : decode cX6_flicker 106 = .ok (.iaload, 1) := by decide +kernel
theorem dX6_flicker_107 : decode cX6_flicker 107 = .ok (.iconst 2, 1) := by decide +kernel
theorem dX6_flicker_108 : decode cX6_flicker 108 = .ok (.if_icmp .ne 13, 3) := by decide +kernel
theorem dX6_flicker_111 : decode cX6_flicker 111 = .ok (.iload_n 3, 1) := by decide +kernel
theorem dX6_flicker_112 : decode cX6_flicker 112 = .ok (.ifCond .ne 6, 3) := by decide +kernel
theorem dX6_flicker_115 : decode cX6_flicker 115 = .ok (.iload 4, 2) := by decide +kernel
theorem dX6_flicker_117 : decode cX6_flicker 117 = .ok (.ireturn, 1) := by decide +kernel
theorem dX6_flicker_118 : decode cX6_flicker 118 = .ok (.iinc 3 (-1), 3) := by decide +kernel
theorem dX6_flicker_121 : decode cX6_flicker 121 = .ok (.iinc 4 1, 3) := by decide +kernel
theorem dX6_flicker_124 : decode cX6_flicker 124 = .ok (.goto (-64), 3) := by decide +kernel
theorem dX6_flicker_127 : decode cX6_flicker 127 = .ok (.iconst (-1), 1) := by decide +kernel
theorem dX6_flicker_128 : decode cX6_flicker 128 = .ok (.ireturn, 1) := by decide +kernel
set_option maxRecDepth 20000 in
theorem ggX6_wheel_X4_begin : GoodIn wsX6_wheel wsX4_begin := goodIn_r _ [9, 10, 11, 12, 13, 14, 15, 16, 17, 30, 31, 32, 33, 34, 35, 36, 37, 38, 39, 40, 41, 42, 43, 44, 45, 46, 47, 48, 49, 50] (by decide +kernel) (by decide +kernel)
set_option maxRecDepth 20000 in
theorem gX6_wheel_X4_begin : GoodIn wsX6_wheel (wsV RX6 136 RX4 yX4_begin wsX4_begin) := goodIn_app (goodIn_of _ (by decide +kernel)) ggX6_wheel_X4_begin
theorem dX6_wheel_0 : decode cX6_wheel 0 = .ok (.aload_n 0, 1) := by decide +kernel
theorem dX6_wheel_1 : decode cX6_wheel 1 = .ok (.getfield 50, 3) := by decide +kernel
theorem dX6_wheel_4 : decode cX6_wheel 4 = .ok (.aload_n 0, 1) := by decide +kernel
theorem dX6_wheel_5 : decode cX6_wheel 5 = .ok (.getfield 23, 3) := by decide +kernel
theorem dX6_wheel_8 : decode cX6_wheel 8 = .ok (.aload_n 0, 1) := by decide +kernel
theorem dX6_wheel_9 : decode cX6_wheel 9 = .ok (.getfield 30, 3) := by decide +kernel
theorem dX6_wheel_12 : decode cX6_wheel 12 = .ok (.invokevirtual 136, 3) := by decide +kernel
theorem dX6_wheel_15 : decode cX6_wheel 15 = .ok (.aload_n 0, 1) := by decide +kernel
theorem dX6_wheel_16 : decode cX6_wheel 16 = .ok (.iconst 1, 1) := by decide +kernel
theorem dX6_wheel_17 : decode cX6_wheel 17 = .ok (.putfield 69, 3) := by decide +kernel
theorem dX6_wheel_20 : decode cX6_wheel 20 = .ok (.iconst 1, 1) := by decide +kernel
theorem dX6_wheel_21 : decode cX6_wheel 21 = .ok (.ireturn, 1) := by decide +kernel
set_option maxRecDepth 20000 in
theorem ggX6_put_X0_isKind : GoodIn wsX6_put wsX0_isKind := goodIn_r _ [8, 9, 10, 11, 12, 7, 13, 14, 37, 38, 39, 40, 41, 42, 43, 44, 45, 46, 47, 48, 49] (by decide +kernel) (by decide +kernel)
set_option maxRecDepth 20000 in
theorem gX6_put_X0_isKind : GoodIn wsX6_put (wsV RX6 105 RX0 yX0_isKind wsX0_isKind) := goodIn_app (goodIn_of _ (by decide +kernel)) ggX6_put_X0_isKind
set_option maxRecDepth 20000 in
theorem ggX6_put_X4_change : GoodIn wsX6_put wsX4_change := goodIn_r _ [19, 20, 21, 22, 23, 24, 50, 51, 52, 53, 54, 55, 56, 57] (by decide +kernel) (by decide +kernel)
set_option maxRecDepth 20000 in
theorem gX6_put_X4_change : GoodIn wsX6_put (wsV RX6 140 RX4 yX4_change wsX4_change) := goodIn_app (goodIn_of _ (by decide +kernel)) ggX6_put_X4_change
theorem dX6_put_0 : decode cX6_put 0 = .ok (.aload_n 0, 1) := by decide +kernel
theorem dX6_put_1 : decode cX6_put 1 = .ok (.getfield 69, 3) := by decide +kernel
theorem dX6_put_4 : decode cX6_put 4 = .ok (.ifCond .eq 24, 3) := by decide +kernel
theorem dX6_put_7 : decode cX6_put 7 = .ok (.aload_n 0, 1) := by decide +kernel
theorem dX6_put_8 : decode cX6_put 8 = .ok (.getfield 23, 3) := by decide +kernel
theorem dX6_put_11 : decode cX6_put 11 = .ok (.iload_n 1, 1) := by decide +kernel
theorem dX6_put_12 : decode cX6_put 12 = .ok (.iconst 0, 1) := by decide +kernel
theorem dX6_put_13 : decode cX6_put 13 = .ok (.invokevirtual 105, 3) := by decide +kernel
theorem dX6_put_16 : decode cX6_put 16 = .ok (.ifCond .eq 12, 3) := by decide +kernel
theorem dX6_put_19 : decode cX6_put 19 = .ok (.iload_n 2, 1) := by decide +kernel
theorem dX6_put_20 : decode cX6_put 20 = .ok (.ifCond .lt 8, 3) := by decide +kernel
theorem dX6_put_23 : decode cX6_put 23 = .ok (.iload_n 2, 1) := by decide +kernel
theorem dX6_put_24 : decode cX6_put 24 = .ok (.iconst 3, 1) := by decide +kernel
theorem dX6_put_25 : decode cX6_put 25 = .ok (.if_icmp .le 5, 3) := by decide +kernel
theorem dX6_put_28 : decode cX6_put 28 = .ok (.iconst 0, 1) := by decide +kernel
theorem dX6_put_29 : decode cX6_put 29 = .ok (.ireturn, 1) := by decide +kernel
theorem dX6_put_30 : decode cX6_put 30 = .ok (.aload_n 0, 1) := by decide +kernel
theorem dX6_put_31 : decode cX6_put 31 = .ok (.getfield 50, 3) := by decide +kernel
theorem dX6_put_34 : decode cX6_put 34 = .ok (.iload_n 1, 1) := by decide +kernel
theorem dX6_put_35 : decode cX6_put 35 = .ok (.iload_n 2, 1) := by decide +kernel
theorem dX6_put_36 : decode cX6_put 36 = .ok (.invokevirtual 140, 3) := by decide +kernel
theorem dX6_put_39 : decode cX6_put 39 = .ok (.pop, 1) := by decide +kernel
theorem dX6_put_40 : decode cX6_put 40 = .ok (.iconst 1, 1) := by decide +kernel
theorem dX6_put_41 : decode cX6_put 41 = .ok (.ireturn, 1) := by decide +kernel
set_option maxRecDepth 20000 in
theorem ggX6_run_X4_turn : GoodIn wsX6_run wsX4_turn := goodIn_r _ [8, 9, 10, 11, 12, 13, 7, 14, 15, 16, 17, 18, 19, 20, 21, 22, 23, 24, 25, 26, 27, 28, 29, 30, 31, 32, 33, 34, 35, 36, 37, 38, 39, 40, 41, 42, 43, 44, 45, 46, 47, 48, 49, 50, 51, 52, 53, 54, 55, 56, 57, 58, 59, 60, 61, 62, 63, 64, 65, 66, 67, 68, 69, 70, 71, 72, 73, 74, 75, 76, 77, 78, 79, 80, 81, 82, 83, 84, 85, 86, 87, 88, 89, 90, 91, 92, 105, 106, 107, 108, 109, 110, 111, 112, 113, 114, 115, 116, 117, 118, 119, 120, 121, 122, 123, 124, 125] (by decide +kernel) (by decide +kernel)
set_option maxRecDepth 20000 in
theorem gX6_run_X4_turn : GoodIn wsX6_run (wsV RX6 144 RX4 yX4_turn wsX4_turn) := goodIn_app (goodIn_of _ (by decide +kernel)) ggX6_run_X4_turn
theorem dX6_run_0 : decode cX6_run 0 = .ok (.aload_n 0, 1) := by decide +kernel
theorem dX6_run_1 : decode cX6_run 1 = .ok (.getfield 69, 3) := by decide +kernel
theorem dX6_run_4 : decode cX6_run 4 = .ok (.ifCond .eq 14, 3) := by decide +kernel
theorem dX6_run_7 : decode cX6_run 7 = .ok (.iload_n 1, 1) := by decide +kernel
theorem dX6_run_8 : decode cX6_run 8 = .ok (.ifCond .lt 10, 3) := by decide +kernel
theorem dX6_run_11 : decode cX6_run 11 = .ok (.iload_n 1, 1) := by decide +kernel
theorem dX6_run_12 : decode cX6_run 12 = .ok (.sipush 1000, 3) := by decide +kernel
theorem dX6_run_15 : decode cX6_run 15 = .ok (.if_icmp .le 5, 3) := by decide +kernel
theorem dX6_run_18 : decode cX6_run 18 = .ok (.iconst (-1), 1) := by decide +kernel
theorem dX6_run_19 : decode cX6_run 19 = .ok (.ireturn, 1) := by decide +kernel
theorem dX6_run_20 : decode cX6_run 20 = .ok (.aload_n 0, 1) := by decide +kernel
theorem dX6_run_21 : decode cX6_run 21 = .ok (.getfield 50, 3) := by decide +kernel
theorem dX6_run_24 : decode cX6_run 24 = .ok (.aload_n 0, 1) := by decide +kernel
theorem dX6_run_25 : decode cX6_run 25 = .ok (.getfield 23, 3) := by decide +kernel
theorem dX6_run_28 : decode cX6_run 28 = .ok (.iload_n 1, 1) := by decide +kernel
theorem dX6_run_29 : decode cX6_run 29 = .ok (.invokevirtual 144, 3) := by decide +kernel
theorem dX6_run_32 : decode cX6_run 32 = .ok (.ireturn, 1) := by decide +kernel
set_option maxRecDepth 20000 in
theorem ggX6_on_X0_has : GoodIn wsX6_on wsX0_has := goodIn_r _ [9, 10, 31, 32, 33, 34, 35, 36, 37, 38, 39, 40, 41, 42, 43] (by decide +kernel) (by decide +kernel)
set_option maxRecDepth 20000 in
theorem gX6_on_X0_has : GoodIn wsX6_on (wsV RX6 88 RX0 yX0_has wsX0_has) := goodIn_app (goodIn_of _ (by decide +kernel)) ggX6_on_X0_has
theorem dX6_on_0 : decode cX6_on 0 = .ok (.aload_n 0, 1) := by decide +kernel
theorem dX6_on_1 : decode cX6_on 1 = .ok (.getfield 69, 3) := by decide +kernel
theorem dX6_on_4 : decode cX6_on 4 = .ok (.ifCond .eq 26, 3) := by decide +kernel
theorem dX6_on_7 : decode cX6_on 7 = .ok (.aload_n 0, 1) := by decide +kernel
theorem dX6_on_8 : decode cX6_on 8 = .ok (.getfield 23, 3) := by decide +kernel
theorem dX6_on_11 : decode cX6_on 11 = .ok (.iload_n 1, 1) := by decide +kernel
theorem dX6_on_12 : decode cX6_on 12 = .ok (.invokevirtual 88, 3) := by decide +kernel
theorem dX6_on_15 : decode cX6_on 15 = .ok (.ifCond .eq 15, 3) := by decide +kernel
theorem dX6_on_18 : decode cX6_on 18 = .ok (.aload_n 0, 1) := by decide +kernel
theorem dX6_on_19 : decode cX6_on 19 = .ok (.getfield 50, 3) := by decide +kernel
theorem dX6_on_22 : decode cX6_on 22 = .ok (.getfield 148, 3) := by decide +kernel
theorem dX6_on_25 : decode cX6_on 25 = .ok (.iload_n 1, 1) := by decide +kernel
theorem dX6_on_26 : decode cX6_on 26 = .ok (.iaload, 1) := by decide +kernel
theorem dX6_on_27 : decode cX6_on 27 = .ok (.goto 4, 3) := by decide +kernel
theorem dX6_on_30 : decode cX6_on 30 = .ok (.iconst (-1), 1) := by decide +kernel
theorem dX6_on_31 : decode cX6_on 31 = .ok (.ireturn, 1) := by decide +kernel
set_option maxRecDepth 20000 in
theorem ggX6_wave_X0_has : GoodIn wsX6_wave wsX0_has := goodIn_r _ [8, 9, 29, 30, 31, 32, 33, 34, 35, 36, 37, 38, 39, 40, 41] (by decide +kernel) (by decide +kernel)
set_option maxRecDepth 20000 in
theorem gX6_wave_X0_has : GoodIn wsX6_wave (wsV RX6 88 RX0 yX0_has wsX0_has) := goodIn_app (goodIn_of _ (by decide +kernel)) ggX6_wave_X0_has
set_option maxRecDepth 20000 in
theorem ggX6_wave_X4_changeOf : GoodIn wsX6_wave wsX4_changeOf := goodIn_r _ [14, 15, 16, 42, 43, 44, 45, 46, 47, 48, 49] (by decide +kernel) (by decide +kernel)
set_option maxRecDepth 20000 in
theorem gX6_wave_X4_changeOf : GoodIn wsX6_wave (wsV RX6 149 RX4 yX4_changeOf wsX4_changeOf) := goodIn_app (goodIn_of _ (by decide +kernel)) ggX6_wave_X4_changeOf
theorem dX6_wave_0 : decode cX6_wave 0 = .ok (.aload_n 0, 1) := by decide +kernel
theorem dX6_wave_1 : decode cX6_wave 1 = .ok (.getfield 69, 3) := by decide +kernel
theorem dX6_wave_4 : decode cX6_wave 4 = .ok (.ifCond .eq 26, 3) := by decide +kernel
theorem dX6_wave_7 : decode cX6_wave 7 = .ok (.aload_n 0, 1) := by decide +kernel
theorem dX6_wave_8 : decode cX6_wave 8 = .ok (.getfield 23, 3) := by decide +kernel
theorem dX6_wave_11 : decode cX6_wave 11 = .ok (.iload_n 1, 1) := by decide +kernel
theorem dX6_wave_12 : decode cX6_wave 12 = .ok (.invokevirtual 88, 3) := by decide +kernel
theorem dX6_wave_15 : decode cX6_wave 15 = .ok (.ifCond .eq 15, 3) := by decide +kernel
theorem dX6_wave_18 : decode cX6_wave 18 = .ok (.aload_n 0, 1) := by decide +kernel
theorem dX6_wave_19 : decode cX6_wave 19 = .ok (.getfield 50, 3) := by decide +kernel
theorem dX6_wave_22 : decode cX6_wave 22 = .ok (.iload_n 1, 1) := by decide +kernel
theorem dX6_wave_23 : decode cX6_wave 23 = .ok (.iload_n 2, 1) := by decide +kernel
theorem dX6_wave_24 : decode cX6_wave 24 = .ok (.invokevirtual 149, 3) := by decide +kernel
theorem dX6_wave_27 : decode cX6_wave 27 = .ok (.goto 4, 3) := by decide +kernel
theorem dX6_wave_30 : decode cX6_wave 30 = .ok (.iconst (-1), 1) := by decide +kernel
theorem dX6_wave_31 : decode cX6_wave 31 = .ok (.ireturn, 1) := by decide +kernel
set_option maxRecDepth 20000 in
theorem ggX6_about_X4_quiet : GoodIn wsX6_about wsX4_quiet := goodIn_r _ [12, 13, 14, 61, 62, 63, 64, 65, 66, 67, 68] (by decide +kernel) (by decide +kernel)
set_option maxRecDepth 20000 in
theorem gX6_about_X4_quiet : GoodIn wsX6_about (wsV RX6 158 RX4 yX4_quiet wsX4_quiet) := goodIn_app (goodIn_of _ (by decide +kernel)) ggX6_about_X4_quiet
set_option maxRecDepth 20000 in
theorem ggX6_about_X6_countFree : GoodIn wsX6_about wsX6_countFree := goodIn_r _ [19, 1, 2, 20, 21, 22, 23, 24, 25, 26, 27, 28, 29, 30, 31, 32, 33, 34, 35, 36, 37, 38, 39, 40, 41, 42, 43, 44, 45, 46, 47, 48, 49, 50, 51, 52, 53, 54, 55, 56, 57, 58, 59, 60] (by decide +kernel) (by decide +kernel)
set_option maxRecDepth 20000 in
theorem gX6_about_X6_countFree : GoodIn wsX6_about (wsV RX6 115 RX6 yX6_countFree wsX6_countFree) := goodIn_app (goodIn_of _ (by decide +kernel)) ggX6_about_X6_countFree
theorem dX6_about_0 : decode cX6_about 0 = .ok (.iload_n 1, 1) := by decide +kernel
theorem dX6_about_1 : decode cX6_about 1 = .ok (.tableswitch 117 0 5 #[39, 47, 55, 74, 93, 112], 39) := by decide +kernel
theorem dX6_about_40 : decode cX6_about 40 = .ok (.aload_n 0, 1) := by decide +kernel
theorem dX6_about_41 : decode cX6_about 41 = .ok (.getfield 23, 3) := by decide +kernel
theorem dX6_about_44 : decode cX6_about 44 = .ok (.getfield 66, 3) := by decide +kernel
theorem dX6_about_47 : decode cX6_about 47 = .ok (.ireturn, 1) := by decide +kernel
theorem dX6_about_48 : decode cX6_about 48 = .ok (.aload_n 0, 1) := by decide +kernel
theorem dX6_about_49 : decode cX6_about 49 = .ok (.getfield 23, 3) := by decide +kernel
theorem dX6_about_52 : decode cX6_about 52 = .ok (.getfield 152, 3) := by decide +kernel
theorem dX6_about_55 : decode cX6_about 55 = .ok (.ireturn, 1) := by decide +kernel
theorem dX6_about_56 : decode cX6_about 56 = .ok (.aload_n 0, 1) := by decide +kernel
theorem dX6_about_57 : decode cX6_about 57 = .ok (.getfield 69, 3) := by decide +kernel
theorem dX6_about_60 : decode cX6_about 60 = .ok (.ifCond .eq 13, 3) := by decide +kernel
theorem dX6_about_63 : decode cX6_about 63 = .ok (.aload_n 0, 1) := by decide +kernel
theorem dX6_about_64 : decode cX6_about 64 = .ok (.getfield 50, 3) := by decide +kernel
theorem dX6_about_67 : decode cX6_about 67 = .ok (.getfield 155, 3) := by decide +kernel
theorem dX6_about_70 : decode cX6_about 70 = .ok (.goto 4, 3) := by decide +kernel
theorem dX6_about_73 : decode cX6_about 73 = .ok (.iconst (-1), 1) := by decide +kernel
theorem dX6_about_74 : decode cX6_about 74 = .ok (.ireturn, 1) := by decide +kernel
theorem dX6_about_75 : decode cX6_about 75 = .ok (.aload_n 0, 1) := by decide +kernel
theorem dX6_about_76 : decode cX6_about 76 = .ok (.getfield 69, 3) := by decide +kernel
theorem dX6_about_79 : decode cX6_about 79 = .ok (.ifCond .eq 13, 3) := by decide +kernel
theorem dX6_about_82 : decode cX6_about 82 = .ok (.aload_n 0, 1) := by decide +kernel
theorem dX6_about_83 : decode cX6_about 83 = .ok (.getfield 50, 3) := by decide +kernel
theorem dX6_about_86 : decode cX6_about 86 = .ok (.invokevirtual 158, 3) := by decide +kernel
theorem dX6_about_89 : decode cX6_about 89 = .ok (.goto 4, 3) := by decide +kernel
theorem dX6_about_92 : decode cX6_about 92 = .ok (.iconst (-1), 1) := by decide +kernel
theorem dX6_about_93 : decode cX6_about 93 = .ok (.ireturn, 1) := by decide +kernel
theorem dX6_about_94 : decode cX6_about 94 = .ok (.aload_n 0, 1) := by decide +kernel
theorem dX6_about_95 : decode cX6_about 95 = .ok (.getfield 69, 3) := by decide +kernel
theorem dX6_about_98 : decode cX6_about 98 = .ok (.ifCond .eq 13, 3) := by decide +kernel
theorem dX6_about_101 : decode cX6_about 101 = .ok (.aload_n 0, 1) := by decide +kernel
theorem dX6_about_102 : decode cX6_about 102 = .ok (.getfield 50, 3) := by decide +kernel
theorem dX6_about_105 : decode cX6_about 105 = .ok (.getfield 161, 3) := by decide +kernel
theorem dX6_about_108 : decode cX6_about 108 = .ok (.goto 4, 3) := by decide +kernel
theorem dX6_about_111 : decode cX6_about 111 = .ok (.iconst (-1), 1) := by decide +kernel
theorem dX6_about_112 : decode cX6_about 112 = .ok (.ireturn, 1) := by decide +kernel
theorem dX6_about_113 : decode cX6_about 113 = .ok (.aload_n 0, 1) := by decide +kernel
theorem dX6_about_114 : decode cX6_about 114 = .ok (.invokevirtual 115, 3) := by decide +kernel
theorem dX6_about_117 : decode cX6_about 117 = .ok (.ireturn, 1) := by decide +kernel
theorem dX6_about_118 : decode cX6_about 118 = .ok (.iconst (-1), 1) := by decide +kernel
theorem dX6_about_119 : decode cX6_about 119 = .ok (.ireturn, 1) := by decide +kernel
theorem dX6_addToTape_0 : decode cX6_addToTape 0 = .ok (.bipush 24, 2) := by decide +kernel
theorem dX6_addToTape_2 : decode cX6_addToTape 2 = .ok (.istore_n 2, 1) := by decide +kernel
theorem dX6_addToTape_3 : decode cX6_addToTape 3 = .ok (.iload_n 2, 1) := by decide +kernel
theorem dX6_addToTape_4 : decode cX6_addToTape 4 = .ok (.ifCond .lt 42, 3) := by decide +kernel
theorem dX6_addToTape_7 : decode cX6_addToTape 7 = .ok (.aload_n 0, 1) := by decide +kernel
theorem dX6_addToTape_8 : decode cX6_addToTape 8 = .ok (.getfield 54, 3) := by decide +kernel
theorem dX6_addToTape_11 : decode cX6_addToTape 11 = .ok (.sipush 2000, 3) := by decide +kernel
theorem dX6_addToTape_14 : decode cX6_addToTape 14 = .ok (.if_icmp .ge 32, 3) := by decide +kernel
theorem dX6_addToTape_17 : decode cX6_addToTape 17 = .ok (.aload_n 0, 1) := by decide +kernel
theorem dX6_addToTape_18 : decode cX6_addToTape 18 = .ok (.getfield 9, 3) := by decide +kernel
theorem dX6_addToTape_21 : decode cX6_addToTape 21 = .ok (.aload_n 0, 1) := by decide +kernel
theorem dX6_addToTape_22 : decode cX6_addToTape 22 = .ok (.getfield 54, 3) := by decide +kernel
theorem dX6_addToTape_25 : decode cX6_addToTape 25 = .ok (.iload_n 1, 1) := by decide +kernel
theorem dX6_addToTape_26 : decode cX6_addToTape 26 = .ok (.iload_n 2, 1) := by decide +kernel
theorem dX6_addToTape_27 : decode cX6_addToTape 27 = .ok (.iushr, 1) := by decide +kernel
theorem dX6_addToTape_28 : decode cX6_addToTape 28 = .ok (.i2b, 1) := by decide +kernel
theorem dX6_addToTape_29 : decode cX6_addToTape 29 = .ok (.bastore, 1) := by decide +kernel
theorem dX6_addToTape_30 : decode cX6_addToTape 30 = .ok (.aload_n 0, 1) := by decide +kernel
theorem dX6_addToTape_31 : decode cX6_addToTape 31 = .ok (.dup, 1) := by decide +kernel
theorem dX6_addToTape_32 : decode cX6_addToTape 32 = .ok (.getfield 54, 3) := by decide +kernel
theorem dX6_addToTape_35 : decode cX6_addToTape 35 = .ok (.iconst 1, 1) := by decide +kernel
theorem dX6_addToTape_36 : decode cX6_addToTape 36 = .ok (.iadd, 1) := by decide +kernel
theorem dX6_addToTape_37 : decode cX6_addToTape 37 = .ok (.putfield 54, 3) := by decide +kernel
theorem dX6_addToTape_40 : decode cX6_addToTape 40 = .ok (.iinc 2 (-8), 3) := by decide +kernel
theorem dX6_addToTape_43 : decode cX6_addToTape 43 = .ok (.goto (-40), 3) := by decide +kernel
theorem dX6_addToTape_46 : decode cX6_addToTape 46 = .ok (.return_, 1) := by decide +kernel
set_option maxRecDepth 20000 in
theorem ggX6_settleValues_X2_settle : GoodIn wsX6_settleValues wsX2_settle := goodIn_r _ [7, 8, 9, 10, 11, 12, 6, 13, 14, 15, 16, 17, 18, 19, 20, 21, 22, 23, 24, 25, 26, 27, 28, 29, 30, 31, 32, 33, 34, 35, 36, 37, 38, 39, 40, 41, 42, 43, 44, 45, 46, 47, 48, 49, 62, 63, 64, 65, 66, 67, 68, 69, 70, 71, 72, 73, 74] (by decide +kernel) (by decide +kernel)
set_option maxRecDepth 20000 in
theorem gX6_settleValues_X2_settle : GoodIn wsX6_settleValues (va_wsS RX6 164 yX2_settle wsX2_settle) := goodIn_app (goodIn_of _ (by decide +kernel)) ggX6_settleValues_X2_settle
theorem dX6_settleValues_0 : decode cX6_settleValues 0 = .ok (.aload_n 0, 1) := by decide +kernel
theorem dX6_settleValues_1 : decode cX6_settleValues 1 = .ok (.getfield 23, 3) := by decide +kernel
theorem dX6_settleValues_4 : decode cX6_settleValues 4 = .ok (.aload_n 0, 1) := by decide +kernel
theorem dX6_settleValues_5 : decode cX6_settleValues 5 = .ok (.getfield 30, 3) := by decide +kernel
theorem dX6_settleValues_8 : decode cX6_settleValues 8 = .ok (.invokestatic 164, 3) := by decide +kernel
theorem dX6_settleValues_11 : decode cX6_settleValues 11 = .ok (.aload_n 0, 1) := by decide +kernel
theorem dX6_settleValues_12 : decode cX6_settleValues 12 = .ok (.iconst 0, 1) := by decide +kernel
theorem dX6_settleValues_13 : decode cX6_settleValues 13 = .ok (.putfield 167, 3) := by decide +kernel
theorem dX6_settleValues_16 : decode cX6_settleValues 16 = .ok (.return_, 1) := by decide +kernel
set_option maxRecDepth 20000 in
theorem ggX6_settleWith_X2_settle : GoodIn wsX6_settleWith wsX2_settle := goodIn_r _ [10, 11, 12, 13, 14, 15, 9, 16, 17, 18, 19, 20, 21, 22, 23, 24, 25, 26, 27, 28, 29, 30, 31, 32, 33, 34, 35, 36, 37, 38, 39, 40, 41, 42, 43, 44, 45, 46, 47, 48, 49, 50, 51, 52, 65, 66, 67, 68, 69, 70, 71, 72, 73, 74, 75, 76, 77] (by decide +kernel) (by decide +kernel)
set_option maxRecDepth 20000 in
theorem gX6_settleWith_X2_settle : GoodIn wsX6_settleWith (va_wsS RX6 164 yX2_settle wsX2_settle) := goodIn_app (goodIn_of _ (by decide +kernel)) ggX6_settleWith_X2_settle
theorem dX6_settleWith_0 : decode cX6_settleWith 0 = .ok (.aload_n 0, 1) := by decide +kernel
theorem dX6_settleWith_1 : decode cX6_settleWith 1 = .ok (.getfield 30, 3) := by decide +kernel
theorem dX6_settleWith_4 : decode cX6_settleWith 4 = .ok (.iconst 0, 1) := by decide +kernel
theorem dX6_settleWith_5 : decode cX6_settleWith 5 = .ok (.aload_n 1, 1) := by decide +kernel
theorem dX6_settleWith_6 : decode cX6_settleWith 6 = .ok (.iconst 0, 1) := by decide +kernel
theorem dX6_settleWith_7 : decode cX6_settleWith 7 = .ok (.bipush 60, 2) := by decide +kernel
theorem dX6_settleWith_9 : decode cX6_settleWith 9 = .ok (.invokestatic 170, 3) := by decide +kernel
theorem dX6_settleWith_12 : decode cX6_settleWith 12 = .ok (.aload_n 1, 1) := by decide +kernel
theorem dX6_settleWith_13 : decode cX6_settleWith 13 = .ok (.iload_n 2, 1) := by decide +kernel
theorem dX6_settleWith_14 : decode cX6_settleWith 14 = .ok (.iload_n 3, 1) := by decide +kernel
theorem dX6_settleWith_15 : decode cX6_settleWith 15 = .ok (.iastore, 1) := by decide +kernel
theorem dX6_settleWith_16 : decode cX6_settleWith 16 = .ok (.aload_n 0, 1) := by decide +kernel
theorem dX6_settleWith_17 : decode cX6_settleWith 17 = .ok (.getfield 23, 3) := by decide +kernel
theorem dX6_settleWith_20 : decode cX6_settleWith 20 = .ok (.aload_n 1, 1) := by decide +kernel
theorem dX6_settleWith_21 : decode cX6_settleWith 21 = .ok (.invokestatic 164, 3) := by decide +kernel
theorem dX6_settleWith_24 : decode cX6_settleWith 24 = .ok (.return_, 1) := by decide +kernel
set_option maxRecDepth 20000 in
theorem ggX6_countFree_X0_isSource : GoodIn wsX6_countFree wsX0_isSource := goodIn_r _ [8, 9, 10, 11, 7, 12, 13, 14, 15, 16, 17, 18, 31, 32, 33, 34, 35, 36, 37, 38, 39, 40, 41, 42, 43] (by decide +kernel) (by decide +kernel)
set_option maxRecDepth 20000 in
theorem gX6_countFree_X0_isSource : GoodIn wsX6_countFree (wsV RX6 176 RX0 yX0_isSource wsX0_isSource) := goodIn_app (goodIn_of _ (by decide +kernel)) ggX6_countFree_X0_isSource
theorem dX6_countFree_0 : decode cX6_countFree 0 = .ok (.iconst 0, 1) := by decide +kernel
theorem dX6_countFree_1 : decode cX6_countFree 1 = .ok (.istore_n 1, 1) := by decide +kernel
theorem dX6_countFree_2 : decode cX6_countFree 2 = .ok (.iconst 0, 1) := by decide +kernel
theorem dX6_countFree_3 : decode cX6_countFree 3 = .ok (.istore_n 2, 1) := by decide +kernel
theorem dX6_countFree_4 : decode cX6_countFree 4 = .ok (.iload_n 2, 1) := by decide +kernel
theorem dX6_countFree_5 : decode cX6_countFree 5 = .ok (.aload_n 0, 1) := by decide +kernel
theorem dX6_countFree_6 : decode cX6_countFree 6 = .ok (.getfield 23, 3) := by decide +kernel
theorem dX6_countFree_9 : decode cX6_countFree 9 = .ok (.getfield 66, 3) := by decide +kernel
theorem dX6_countFree_12 : decode cX6_countFree 12 = .ok (.if_icmp .ge 33, 3) := by decide +kernel
theorem dX6_countFree_15 : decode cX6_countFree 15 = .ok (.aload_n 0, 1) := by decide +kernel
theorem dX6_countFree_16 : decode cX6_countFree 16 = .ok (.getfield 23, 3) := by decide +kernel
theorem dX6_countFree_19 : decode cX6_countFree 19 = .ok (.iload_n 2, 1) := by decide +kernel
theorem dX6_countFree_20 : decode cX6_countFree 20 = .ok (.invokevirtual 176, 3) := by decide +kernel
theorem dX6_countFree_23 : decode cX6_countFree 23 = .ok (.ifCond .eq 16, 3) := by decide +kernel
theorem dX6_countFree_26 : decode cX6_countFree 26 = .ok (.aload_n 0, 1) := by decide +kernel
theorem dX6_countFree_27 : decode cX6_countFree 27 = .ok (.getfield 30, 3) := by decide +kernel
theorem dX6_countFree_30 : decode cX6_countFree 30 = .ok (.iload_n 2, 1) := by decide +kernel
theorem dX6_countFree_31 : decode cX6_countFree 31 = .ok (.iaload, 1) := by decide +kernel
theorem dX6_countFree_32 : decode cX6_countFree 32 = .ok (.iconst 2, 1) := by decide +kernel
theorem dX6_countFree_33 : decode cX6_countFree 33 = .ok (.if_icmp .lt 6, 3) := by decide +kernel
theorem dX6_countFree_36 : decode cX6_countFree 36 = .ok (.iinc 1 1, 3) := by decide +kernel
theorem dX6_countFree_39 : decode cX6_countFree 39 = .ok (.iinc 2 1, 3) := by decide +kernel
theorem dX6_countFree_42 : decode cX6_countFree 42 = .ok (.goto (-38), 3) := by decide +kernel
theorem dX6_countFree_45 : decode cX6_countFree 45 = .ok (.iload_n 1, 1) := by decide +kernel
theorem dX6_countFree_46 : decode cX6_countFree 46 = .ok (.ireturn, 1) := by decide +kernel
set_option maxRecDepth 20000 in
theorem ggX6_goThroughWorlds_X6_countFree : GoodIn wsX6_goThroughWorlds wsX6_countFree := goodIn_r _ [9, 3, 10, 4, 11, 12, 13, 14, 15, 16, 17, 18, 19, 20, 21, 22, 23, 24, 25, 95, 96, 97, 98, 99, 100, 101, 102, 103, 104, 105, 106, 107, 108, 109, 110, 111, 112, 113, 114, 115, 116, 117, 118, 119] (by decide +kernel) (by decide +kernel)
set_option maxRecDepth 20000 in
theorem gX6_goThroughWorlds_X6_countFree : GoodIn wsX6_goThroughWorlds (wsV RX6 115 RX6 yX6_countFree wsX6_countFree) := goodIn_app (goodIn_of _ (by decide +kernel)) ggX6_goThroughWorlds_X6_countFree
set_option maxRecDepth 20000 in
theorem ggX6_goThroughWorlds_X5_goThrough : GoodIn wsX6_goThroughWorlds wsX5_goThrough := goodIn_r _ [30, 31, 32, 33, 34, 35, 36, 37, 38, 29, 39, 40, 41, 42, 12, 13, 14, 15, 16, 17, 18, 19, 20, 21, 22, 23, 24, 25, 43, 44, 45, 46, 47, 48, 49, 50, 51, 52, 53, 54, 55, 56, 57, 58, 59, 60, 61, 62, 63, 64, 65, 66, 67, 68, 69, 70, 71, 72, 73, 74, 75, 76, 77, 78, 79, 80, 81, 82, 83, 84, 85, 86, 87, 88, 89, 90, 91, 92, 93, 94, 120, 121, 122, 123, 124, 107, 108, 109, 110, 111, 112, 113, 114, 115, 116, 117, 118, 119] (by decide +kernel) (by decide +kernel)
set_option maxRecDepth 20000 in
theorem gX6_goThroughWorlds_X5_goThrough : GoodIn wsX6_goThroughWorlds (wsV RX6 179 RX5 yX5_goThrough wsX5_goThrough) := goodIn_app (goodIn_of _ (by decide +kernel)) ggX6_goThroughWorlds_X5_goThrough
theorem dX6_goThroughWorlds_0 : decode cX6_goThroughWorlds 0 = .ok (.aload_n 0, 1) := by decide +kernel
theorem dX6_goThroughWorlds_1 : decode cX6_goThroughWorlds 1 = .ok (.invokevirtual 115, 3) := by decide +kernel
theorem dX6_goThroughWorlds_4 : decode cX6_goThroughWorlds 4 = .ok (.istore_n 1, 1) := by decide +kernel
theorem dX6_goThroughWorlds_5 : decode cX6_goThroughWorlds 5 = .ok (.iload_n 1, 1) := by decide +kernel
theorem dX6_goThroughWorlds_6 : decode cX6_goThroughWorlds 6 = .ok (.bipush 12, 2) := by decide +kernel
theorem dX6_goThroughWorlds_8 : decode cX6_goThroughWorlds 8 = .ok (.if_icmp .le 5, 3) := by decide +kernel
theorem dX6_goThroughWorlds_11 : decode cX6_goThroughWorlds 11 = .ok (.iconst 0, 1) := by decide +kernel
theorem dX6_goThroughWorlds_12 : decode cX6_goThroughWorlds 12 = .ok (.ireturn, 1) := by decide +kernel
theorem dX6_goThroughWorlds_13 : decode cX6_goThroughWorlds 13 = .ok (.aload_n 0, 1) := by decide +kernel
theorem dX6_goThroughWorlds_14 : decode cX6_goThroughWorlds 14 = .ok (.getfield 167, 3) := by decide +kernel
theorem dX6_goThroughWorlds_17 : decode cX6_goThroughWorlds 17 = .ok (.ifCond .ne 24, 3) := by decide +kernel
theorem dX6_goThroughWorlds_20 : decode cX6_goThroughWorlds 20 = .ok (.aload_n 0, 1) := by decide +kernel
theorem dX6_goThroughWorlds_21 : decode cX6_goThroughWorlds 21 = .ok (.getfield 43, 3) := by decide +kernel
theorem dX6_goThroughWorlds_24 : decode cX6_goThroughWorlds 24 = .ok (.aload_n 0, 1) := by decide +kernel
theorem dX6_goThroughWorlds_25 : decode cX6_goThroughWorlds 25 = .ok (.getfield 23, 3) := by decide +kernel
theorem dX6_goThroughWorlds_28 : decode cX6_goThroughWorlds 28 = .ok (.aload_n 0, 1) := by decide +kernel
theorem dX6_goThroughWorlds_29 : decode cX6_goThroughWorlds 29 = .ok (.getfield 30, 3) := by decide +kernel
theorem dX6_goThroughWorlds_32 : decode cX6_goThroughWorlds 32 = .ok (.iload_n 1, 1) := by decide +kernel
theorem dX6_goThroughWorlds_33 : decode cX6_goThroughWorlds 33 = .ok (.invokevirtual 179, 3) := by decide +kernel
theorem dX6_goThroughWorlds_36 : decode cX6_goThroughWorlds 36 = .ok (.aload_n 0, 1) := by decide +kernel
theorem dX6_goThroughWorlds_37 : decode cX6_goThroughWorlds 37 = .ok (.iconst 1, 1) := by decide +kernel
theorem dX6_goThroughWorlds_38 : decode cX6_goThroughWorlds 38 = .ok (.putfield 167, 3) := by decide +kernel
theorem dX6_goThroughWorlds_41 : decode cX6_goThroughWorlds 41 = .ok (.iconst 1, 1) := by decide +kernel
theorem dX6_goThroughWorlds_42 : decode cX6_goThroughWorlds 42 = .ok (.ireturn, 1) := by decide +kernel
theorem dX7_init_0 : decode cX7_init 0 = .ok (.aload_n 0, 1) := by decide +kernel
theorem dX7_init_1 : decode cX7_init 1 = .ok (.invokespecial 1, 3) := by decide +kernel
theorem dX7_init_4 : decode cX7_init 4 = .ok (.aload_n 0, 1) := by decide +kernel
theorem dX7_init_5 : decode cX7_init 5 = .ok (.sipush 2020, 3) := by decide +kernel
theorem dX7_init_8 : decode cX7_init 8 = .ok (.newarray .byte, 2) := by decide +kernel
theorem dX7_init_10 : decode cX7_init 10 = .ok (.putfield 7, 3) := by decide +kernel
theorem dX7_init_13 : decode cX7_init 13 = .ok (.aload_n 0, 1) := by decide +kernel
theorem dX7_init_14 : decode cX7_init 14 = .ok (.sipush 2000, 3) := by decide +kernel
theorem dX7_init_17 : decode cX7_init 17 = .ok (.newarray .byte, 2) := by decide +kernel
theorem dX7_init_19 : decode cX7_init 19 = .ok (.putfield 13, 3) := by decide +kernel
theorem dX7_init_22 : decode cX7_init 22 = .ok (.aload_n 0, 1) := by decide +kernel
theorem dX7_init_23 : decode cX7_init 23 = .ok (.iconst (-1), 1) := by decide +kernel
theorem dX7_init_24 : decode cX7_init 24 = .ok (.putfield 16, 3) := by decide +kernel
theorem dX7_init_27 : decode cX7_init 27 = .ok (.aload_n 0, 1) := by decide +kernel
theorem dX7_init_28 : decode cX7_init 28 = .ok (.bipush 120, 2) := by decide +kernel
theorem dX7_init_30 : decode cX7_init 30 = .ok (.newarray .long, 2) := by decide +kernel
theorem dX7_init_32 : decode cX7_init 32 = .ok (.putfield 20, 3) := by decide +kernel
theorem dX7_init_35 : decode cX7_init 35 = .ok (.aload_n 0, 1) := by decide +kernel
theorem dX7_init_36 : decode cX7_init 36 = .ok (.bipush 120, 2) := by decide +kernel
theorem dX7_init_38 : decode cX7_init 38 = .ok (.newarray .int, 2) := by decide +kernel
theorem dX7_init_40 : decode cX7_init 40 = .ok (.putfield 24, 3) := by decide +kernel
theorem dX7_init_43 : decode cX7_init 43 = .ok (.aload_n 0, 1) := by decide +kernel
theorem dX7_init_44 : decode cX7_init 44 = .ok (.bipush 120, 2) := by decide +kernel
theorem dX7_init_46 : decode cX7_init 46 = .ok (.newarray .int, 2) := by decide +kernel
theorem dX7_init_48 : decode cX7_init 48 = .ok (.putfield 28, 3) := by decide +kernel
theorem dX7_init_51 : decode cX7_init 51 = .ok (.aload_n 0, 1) := by decide +kernel
theorem dX7_init_52 : decode cX7_init 52 = .ok (.bipush 120, 2) := by decide +kernel
theorem dX7_init_54 : decode cX7_init 54 = .ok (.newarray .int, 2) := by decide +kernel
theorem dX7_init_56 : decode cX7_init 56 = .ok (.putfield 31, 3) := by decide +kernel
theorem dX7_init_59 : decode cX7_init 59 = .ok (.aload_n 0, 1) := by decide +kernel
theorem dX7_init_60 : decode cX7_init 60 = .ok (.bipush 120, 2) := by decide +kernel
theorem dX7_init_62 : decode cX7_init 62 = .ok (.newarray .int, 2) := by decide +kernel
theorem dX7_init_64 : decode cX7_init 64 = .ok (.putfield 34, 3) := by decide +kernel
theorem dX7_init_67 : decode cX7_init 67 = .ok (.aload_n 0, 1) := by decide +kernel
theorem dX7_init_68 : decode cX7_init 68 = .ok (.sipush 1440, 3) := by decide +kernel
theorem dX7_init_71 : decode cX7_init 71 = .ok (.newarray .int, 2) := by decide +kernel
theorem dX7_init_73 : decode cX7_init 73 = .ok (.putfield 37, 3) := by decide +kernel
theorem dX7_init_76 : decode cX7_init 76 = .ok (.aload_n 0, 1) := by decide +kernel
theorem dX7_init_77 : decode cX7_init 77 = .ok (.bipush 120, 2) := by decide +kernel
theorem dX7_init_79 : decode cX7_init 79 = .ok (.newarray .int, 2) := by decide +kernel
theorem dX7_init_81 : decode cX7_init 81 = .ok (.putfield 40, 3) := by decide +kernel
theorem dX7_init_84 : decode cX7_init 84 = .ok (.aload_n 0, 1) := by decide +kernel
theorem dX7_init_85 : decode cX7_init 85 = .ok (.bipush 60, 2) := by decide +kernel
theorem dX7_init_87 : decode cX7_init 87 = .ok (.newarray .int, 2) := by decide +kernel
theorem dX7_init_89 : decode cX7_init 89 = .ok (.putfield 43, 3) := by decide +kernel
theorem dX7_init_92 : decode cX7_init 92 = .ok (.aload_n 0, 1) := by decide +kernel
theorem dX7_init_93 : decode cX7_init 93 = .ok (.sipush 720, 3) := by decide +kernel
theorem dX7_init_96 : decode cX7_init 96 = .ok (.newarray .boolean, 2) := by decide +kernel
theorem dX7_init_98 : decode cX7_init 98 = .ok (.putfield 46, 3) := by decide +kernel
theorem dX7_init_101 : decode cX7_init 101 = .ok (.aload_n 0, 1) := by decide +kernel
theorem dX7_init_102 : decode cX7_init 102 = .ok (.sipush 1000, 3) := by decide +kernel
theorem dX7_init_105 : decode cX7_init 105 = .ok (.newarray .long, 2) := by decide +kernel
theorem dX7_init_107 : decode cX7_init 107 = .ok (.putfield 50, 3) := by decide +kernel
theorem dX7_init_110 : decode cX7_init 110 = .ok (.aload_n 0, 1) := by decide +kernel
theorem dX7_init_111 : decode cX7_init 111 = .ok (.sipush 1000, 3) := by decide +kernel
theorem dX7_init_114 : decode cX7_init 114 = .ok (.newarray .int, 2) := by decide +kernel
theorem dX7_init_116 : decode cX7_init 116 = .ok (.putfield 53, 3) := by decide +kernel
theorem dX7_init_119 : decode cX7_init 119 = .ok (.aload_n 0, 1) := by decide +kernel
theorem dX7_init_120 : decode cX7_init 120 = .ok (.sipush 1000, 3) := by decide +kernel
theorem dX7_init_123 : decode cX7_init 123 = .ok (.newarray .int, 2) := by decide +kernel
theorem dX7_init_125 : decode cX7_init 125 = .ok (.putfield 56, 3) := by decide +kernel
theorem dX7_init_128 : decode cX7_init 128 = .ok (.aload_n 0, 1) := by decide +kernel
theorem dX7_init_129 : decode cX7_init 129 = .ok (.sipush 200, 3) := by decide +kernel
theorem dX7_init_132 : decode cX7_init 132 = .ok (.newarray .long, 2) := by decide +kernel
theorem dX7_init_134 : decode cX7_init 134 = .ok (.putfield 59, 3) := by decide +kernel
theorem dX7_init_137 : decode cX7_init 137 = .ok (.aload_n 0, 1) := by decide +kernel
theorem dX7_init_138 : decode cX7_init 138 = .ok (.sipush 200, 3) := by decide +kernel
theorem dX7_init_141 : decode cX7_init 141 = .ok (.newarray .int, 2) := by decide +kernel
theorem dX7_init_143 : decode cX7_init 143 = .ok (.putfield 62, 3) := by decide +kernel
theorem dX7_init_146 : decode cX7_init 146 = .ok (.aload_n 0, 1) := by decide +kernel
theorem dX7_init_147 : decode cX7_init 147 = .ok (.sipush 200, 3) := by decide +kernel
theorem dX7_init_150 : decode cX7_init 150 = .ok (.newarray .boolean, 2) := by decide +kernel
theorem dX7_init_152 : decode cX7_init 152 = .ok (.putfield 65, 3) := by decide +kernel
theorem dX7_init_155 : decode cX7_init 155 = .ok (.aload_n 0, 1) := by decide +kernel
theorem dX7_init_156 : decode cX7_init 156 = .ok (.bipush 60, 2) := by decide +kernel
theorem dX7_init_158 : decode cX7_init 158 = .ok (.newarray .boolean, 2) := by decide +kernel
theorem dX7_init_160 : decode cX7_init 160 = .ok (.putfield 68, 3) := by decide +kernel
theorem dX7_init_163 : decode cX7_init 163 = .ok (.aload_n 0, 1) := by decide +kernel
theorem dX7_init_164 : decode cX7_init 164 = .ok (.bipush 60, 2) := by decide +kernel
theorem dX7_init_166 : decode cX7_init 166 = .ok (.newarray .int, 2) := by decide +kernel
theorem dX7_init_168 : decode cX7_init 168 = .ok (.putfield 71, 3) := by decide +kernel
theorem dX7_init_171 : decode cX7_init 171 = .ok (.aload_n 0, 1) := by decide +kernel
theorem dX7_init_172 : decode cX7_init 172 = .ok (.bipush 60, 2) := by decide +kernel
theorem dX7_init_174 : decode cX7_init 174 = .ok (.newarray .int, 2) := by decide +kernel
theorem dX7_init_176 : decode cX7_init 176 = .ok (.putfield 74, 3) := by decide +kernel
theorem dX7_init_179 : decode cX7_init 179 = .ok (.aload_n 0, 1) := by decide +kernel
theorem dX7_init_180 : decode cX7_init 180 = .ok (.bipush 60, 2) := by decide +kernel
theorem dX7_init_182 : decode cX7_init 182 = .ok (.newarray .int, 2) := by decide +kernel
theorem dX7_init_184 : decode cX7_init 184 = .ok (.putfield 77, 3) := by decide +kernel
theorem dX7_init_187 : decode cX7_init 187 = .ok (.aload_n 0, 1) := by decide +kernel
theorem dX7_init_188 : decode cX7_init 188 = .ok (.bipush 60, 2) := by decide +kernel
theorem dX7_init_190 : decode cX7_init 190 = .ok (.newarray .int, 2) := by decide +kernel
theorem dX7_init_192 : decode cX7_init 192 = .ok (.putfield 80, 3) := by decide +kernel
theorem dX7_init_195 : decode cX7_init 195 = .ok (.aload_n 0, 1) := by decide +kernel
theorem dX7_init_196 : decode cX7_init 196 = .ok (.bipush 60, 2) := by decide +kernel
theorem dX7_init_198 : decode cX7_init 198 = .ok (.newarray .int, 2) := by decide +kernel
theorem dX7_init_200 : decode cX7_init 200 = .ok (.putfield 83, 3) := by decide +kernel
theorem dX7_init_203 : decode cX7_init 203 = .ok (.aload_n 0, 1) := by decide +kernel
theorem dX7_init_204 : decode cX7_init 204 = .ok (.bipush 60, 2) := by decide +kernel
theorem dX7_init_206 : decode cX7_init 206 = .ok (.newarray .int, 2) := by decide +kernel
theorem dX7_init_208 : decode cX7_init 208 = .ok (.putfield 86, 3) := by decide +kernel
theorem dX7_init_211 : decode cX7_init 211 = .ok (.aload_n 0, 1) := by decide +kernel
theorem dX7_init_212 : decode cX7_init 212 = .ok (.bipush 60, 2) := by decide +kernel
theorem dX7_init_214 : decode cX7_init 214 = .ok (.newarray .int, 2) := by decide +kernel
theorem dX7_init_216 : decode cX7_init 216 = .ok (.putfield 89, 3) := by decide +kernel
theorem dX7_init_219 : decode cX7_init 219 = .ok (.aload_n 0, 1) := by decide +kernel
theorem dX7_init_220 : decode cX7_init 220 = .ok (.bipush 60, 2) := by decide +kernel
theorem dX7_init_222 : decode cX7_init 222 = .ok (.newarray .int, 2) := by decide +kernel
theorem dX7_init_224 : decode cX7_init 224 = .ok (.putfield 92, 3) := by decide +kernel
theorem dX7_init_227 : decode cX7_init 227 = .ok (.aload_n 0, 1) := by decide +kernel
theorem dX7_init_228 : decode cX7_init 228 = .ok (.sipush 600, 3) := by decide +kernel
theorem dX7_init_231 : decode cX7_init 231 = .ok (.newarray .int, 2) := by decide +kernel
theorem dX7_init_233 : decode cX7_init 233 = .ok (.putfield 95, 3) := by decide +kernel
theorem dX7_init_236 : decode cX7_init 236 = .ok (.aload_n 0, 1) := by decide +kernel
theorem dX7_init_237 : decode cX7_init 237 = .ok (.sipush 1200, 3) := by decide +kernel
theorem dX7_init_240 : decode cX7_init 240 = .ok (.newarray .int, 2) := by decide +kernel
theorem dX7_init_242 : decode cX7_init 242 = .ok (.putfield 98, 3) := by decide +kernel
theorem dX7_init_245 : decode cX7_init 245 = .ok (.aload_n 0, 1) := by decide +kernel
theorem dX7_init_246 : decode cX7_init 246 = .ok (.bipush 60, 2) := by decide +kernel
theorem dX7_init_248 : decode cX7_init 248 = .ok (.newarray .int, 2) := by decide +kernel
theorem dX7_init_250 : decode cX7_init 250 = .ok (.putfield 101, 3) := by decide +kernel
theorem dX7_init_253 : decode cX7_init 253 = .ok (.aload_n 0, 1) := by decide +kernel
theorem dX7_init_254 : decode cX7_init 254 = .ok (.bipush 60, 2) := by decide +kernel
theorem dX7_init_256 : decode cX7_init 256 = .ok (.newarray .boolean, 2) := by decide +kernel
theorem dX7_init_258 : decode cX7_init 258 = .ok (.putfield 104, 3) := by decide +kernel
theorem dX7_init_261 : decode cX7_init 261 = .ok (.return_, 1) := by decide +kernel
theorem dX7_sign_0 : decode cX7_sign 0 = .ok (.iload_n 1, 1) := by decide +kernel
theorem dX7_sign_1 : decode cX7_sign 1 = .ok (.aload_n 0, 1) := by decide +kernel
theorem dX7_sign_2 : decode cX7_sign 2 = .ok (.getfield 107, 3) := by decide +kernel
theorem dX7_sign_5 : decode cX7_sign 5 = .ok (.if_icmp .ge 16, 3) := by decide +kernel
theorem dX7_sign_8 : decode cX7_sign 8 = .ok (.aload_n 0, 1) := by decide +kernel
theorem dX7_sign_9 : decode cX7_sign 9 = .ok (.getfield 13, 3) := by decide +kernel
theorem dX7_sign_12 : decode cX7_sign 12 = .ok (.iload_n 1, 1) := by decide +kernel
theorem dX7_sign_13 : decode cX7_sign 13 = .ok (.baload, 1) := by decide +kernel
theorem dX7_sign_14 : decode cX7_sign 14 = .ok (.sipush 255, 3) := by decide +kernel
theorem dX7_sign_17 : decode cX7_sign 17 = .ok (.iand, 1) := by decide +kernel
theorem dX7_sign_18 : decode cX7_sign 18 = .ok (.goto 4, 3) := by decide +kernel
theorem dX7_sign_21 : decode cX7_sign 21 = .ok (.iconst 0, 1) := by decide +kernel
theorem dX7_sign_22 : decode cX7_sign 22 = .ok (.ireturn, 1) := by decide +kernel
theorem dX7_isLetter_0 : decode cX7_isLetter 0 = .ok (.iload_n 0, 1) := by decide +kernel
theorem dX7_isLetter_1 : decode cX7_isLetter 1 = .ok (.bipush 97, 2) := by decide +kernel
theorem dX7_isLetter_3 : decode cX7_isLetter 3 = .ok (.if_icmp .lt 13, 3) := by decide +kernel
theorem dX7_isLetter_6 : decode cX7_isLetter 6 = .ok (.iload_n 0, 1) := by decide +kernel
theorem dX7_isLetter_7 : decode cX7_isLetter 7 = .ok (.bipush 122, 2) := by decide +kernel
theorem dX7_isLetter_9 : decode cX7_isLetter 9 = .ok (.if_icmp .gt 7, 3) := by decide +kernel
theorem dX7_isLetter_12 : decode cX7_isLetter 12 = .ok (.iconst 1, 1) := by decide +kernel
theorem dX7_isLetter_13 : decode cX7_isLetter 13 = .ok (.goto 4, 3) := by decide +kernel
theorem dX7_isLetter_16 : decode cX7_isLetter 16 = .ok (.iconst 0, 1) := by decide +kernel
theorem dX7_isLetter_17 : decode cX7_isLetter 17 = .ok (.ireturn, 1) := by decide +kernel
theorem dX7_isDigit_0 : decode cX7_isDigit 0 = .ok (.iload_n 0, 1) := by decide +kernel
theorem dX7_isDigit_1 : decode cX7_isDigit 1 = .ok (.bipush 48, 2) := by decide +kernel
theorem dX7_isDigit_3 : decode cX7_isDigit 3 = .ok (.if_icmp .lt 13, 3) := by decide +kernel
theorem dX7_isDigit_6 : decode cX7_isDigit 6 = .ok (.iload_n 0, 1) := by decide +kernel
theorem dX7_isDigit_7 : decode cX7_isDigit 7 = .ok (.bipush 57, 2) := by decide +kernel
theorem dX7_isDigit_9 : decode cX7_isDigit 9 = .ok (.if_icmp .gt 7, 3) := by decide +kernel
theorem dX7_isDigit_12 : decode cX7_isDigit 12 = .ok (.iconst 1, 1) := by decide +kernel
theorem dX7_isDigit_13 : decode cX7_isDigit 13 = .ok (.goto 4, 3) := by decide +kernel
theorem dX7_isDigit_16 : decode cX7_isDigit 16 = .ok (.iconst 0, 1) := by decide +kernel
theorem dX7_isDigit_17 : decode cX7_isDigit 17 = .ok (.ireturn, 1) := by decide +kernel
theorem dX7_fails_0 : decode cX7_fails 0 = .ok (.aload_n 0, 1) := by decide +kernel
theorem dX7_fails_1 : decode cX7_fails 1 = .ok (.getfield 110, 3) := by decide +kernel
theorem dX7_fails_4 : decode cX7_fails 4 = .ok (.ifCond .le 4, 3) := by decide +kernel
theorem dX7_fails_7 : decode cX7_fails 7 = .ok (.return_, 1) := by decide +kernel
theorem dX7_fails_8 : decode cX7_fails 8 = .ok (.aload_n 0, 1) := by decide +kernel
theorem dX7_fails_9 : decode cX7_fails 9 = .ok (.iload_n 1, 1) := by decide +kernel
theorem dX7_fails_10 : decode cX7_fails 10 = .ok (.putfield 110, 3) := by decide +kernel
theorem dX7_fails_13 : decode cX7_fails 13 = .ok (.aload_n 0, 1) := by decide +kernel
theorem dX7_fails_14 : decode cX7_fails 14 = .ok (.iload_n 2, 1) := by decide +kernel
theorem dX7_fails_15 : decode cX7_fails 15 = .ok (.putfield 16, 3) := by decide +kernel
theorem dX7_fails_18 : decode cX7_fails 18 = .ok (.return_, 1) := by decide +kernel
theorem dX7_isGood_0 : decode cX7_isGood 0 = .ok (.aload_n 0, 1) := by decide +kernel
theorem dX7_isGood_1 : decode cX7_isGood 1 = .ok (.getfield 110, 3) := by decide +kernel
theorem dX7_isGood_4 : decode cX7_isGood 4 = .ok (.ifCond .ne 7, 3) := by decide +kernel
theorem dX7_isGood_7 : decode cX7_isGood 7 = .ok (.iconst 1, 1) := by decide +kernel
theorem dX7_isGood_8 : decode cX7_isGood 8 = .ok (.goto 4, 3) := by decide +kernel
theorem dX7_isGood_11 : decode cX7_isGood 11 = .ok (.iconst 0, 1) := by decide +kernel
theorem dX7_isGood_12 : decode cX7_isGood 12 = .ok (.ireturn, 1) := by decide +kernel
theorem dX7_gateOf_0 : decode cX7_gateOf 0 = .ok (.lload_n 0, 1) := by decide +kernel
theorem dX7_gateOf_1 : decode cX7_gateOf 1 = .ok (.ldc2_w 113, 3) := by decide +kernel
theorem dX7_gateOf_4 : decode cX7_gateOf 4 = .ok (.lcmp, 1) := by decide +kernel
theorem dX7_gateOf_5 : decode cX7_gateOf 5 = .ok (.ifCond .ne 5, 3) := by decide +kernel
theorem dX7_gateOf_8 : decode cX7_gateOf 8 = .ok (.iconst 0, 1) := by decide +kernel
theorem dX7_gateOf_9 : decode cX7_gateOf 9 = .ok (.ireturn, 1) := by decide +kernel
theorem dX7_gateOf_10 : decode cX7_gateOf 10 = .ok (.lload_n 0, 1) := by decide +kernel
theorem dX7_gateOf_11 : decode cX7_gateOf 11 = .ok (.ldc2_w 115, 3) := by decide +kernel
theorem dX7_gateOf_14 : decode cX7_gateOf 14 = .ok (.lcmp, 1) := by decide +kernel
theorem dX7_gateOf_15 : decode cX7_gateOf 15 = .ok (.ifCond .ne 5, 3) := by decide +kernel
theorem dX7_gateOf_18 : decode cX7_gateOf 18 = .ok (.iconst 1, 1) := by decide +kernel
theorem dX7_gateOf_19 : decode cX7_gateOf 19 = .ok (.ireturn, 1) := by decide +kernel
theorem dX7_gateOf_20 : decode cX7_gateOf 20 = .ok (.lload_n 0, 1) := by decide +kernel
theorem dX7_gateOf_21 : decode cX7_gateOf 21 = .ok (.ldc2_w 117, 3) := by decide +kernel
theorem dX7_gateOf_24 : decode cX7_gateOf 24 = .ok (.lcmp, 1) := by decide +kernel
theorem dX7_gateOf_25 : decode cX7_gateOf 25 = .ok (.ifCond .ne 5, 3) := by decide +kernel
theorem dX7_gateOf_28 : decode cX7_gateOf 28 = .ok (.iconst 2, 1) := by decide +kernel
theorem dX7_gateOf_29 : decode cX7_gateOf 29 = .ok (.ireturn, 1) := by decide +kernel
theorem dX7_gateOf_30 : decode cX7_gateOf 30 = .ok (.lload_n 0, 1) := by decide +kernel
theorem dX7_gateOf_31 : decode cX7_gateOf 31 = .ok (.ldc2_w 119, 3) := by decide +kernel
theorem dX7_gateOf_34 : decode cX7_gateOf 34 = .ok (.lcmp, 1) := by decide +kernel
theorem dX7_gateOf_35 : decode cX7_gateOf 35 = .ok (.ifCond .ne 5, 3) := by decide +kernel
theorem dX7_gateOf_38 : decode cX7_gateOf 38 = .ok (.iconst 3, 1) := by decide +kernel
theorem dX7_gateOf_39 : decode cX7_gateOf 39 = .ok (.ireturn, 1) := by decide +kernel
theorem dX7_gateOf_40 : decode cX7_gateOf 40 = .ok (.lload_n 0, 1) := by decide +kernel
theorem dX7_gateOf_41 : decode cX7_gateOf 41 = .ok (.ldc2_w 121, 3) := by decide +kernel
theorem dX7_gateOf_44 : decode cX7_gateOf 44 = .ok (.lcmp, 1) := by decide +kernel
theorem dX7_gateOf_45 : decode cX7_gateOf 45 = .ok (.ifCond .ne 5, 3) := by decide +kernel
theorem dX7_gateOf_48 : decode cX7_gateOf 48 = .ok (.iconst 4, 1) := by decide +kernel
theorem dX7_gateOf_49 : decode cX7_gateOf 49 = .ok (.ireturn, 1) := by decide +kernel
theorem dX7_gateOf_50 : decode cX7_gateOf 50 = .ok (.lload_n 0, 1) := by decide +kernel
theorem dX7_gateOf_51 : decode cX7_gateOf 51 = .ok (.ldc2_w 123, 3) := by decide +kernel
theorem dX7_gateOf_54 : decode cX7_gateOf 54 = .ok (.lcmp, 1) := by decide +kernel
theorem dX7_gateOf_55 : decode cX7_gateOf 55 = .ok (.ifCond .ne 5, 3) := by decide +kernel
theorem dX7_gateOf_58 : decode cX7_gateOf 58 = .ok (.iconst 5, 1) := by decide +kernel
theorem dX7_gateOf_59 : decode cX7_gateOf 59 = .ok (.ireturn, 1) := by decide +kernel
theorem dX7_gateOf_60 : decode cX7_gateOf 60 = .ok (.lload_n 0, 1) := by decide +kernel
theorem dX7_gateOf_61 : decode cX7_gateOf 61 = .ok (.ldc2_w 125, 3) := by decide +kernel
theorem dX7_gateOf_64 : decode cX7_gateOf 64 = .ok (.lcmp, 1) := by decide +kernel
theorem dX7_gateOf_65 : decode cX7_gateOf 65 = .ok (.ifCond .ne 6, 3) := by decide +kernel
theorem dX7_gateOf_68 : decode cX7_gateOf 68 = .ok (.bipush 6, 2) := by decide +kernel
theorem dX7_gateOf_70 : decode cX7_gateOf 70 = .ok (.ireturn, 1) := by decide +kernel
theorem dX7_gateOf_71 : decode cX7_gateOf 71 = .ok (.lload_n 0, 1) := by decide +kernel
theorem dX7_gateOf_72 : decode cX7_gateOf 72 = .ok (.ldc2_w 127, 3) := by decide +kernel
theorem dX7_gateOf_75 : decode cX7_gateOf 75 = .ok (.lcmp, 1) := by decide +kernel
theorem dX7_gateOf_76 : decode cX7_gateOf 76 = .ok (.ifCond .ne 6, 3) := by decide +kernel
theorem dX7_gateOf_79 : decode cX7_gateOf 79 = .ok (.bipush 7, 2) := by decide +kernel
theorem dX7_gateOf_81 : decode cX7_gateOf 81 = .ok (.ireturn, 1) := by decide +kernel
theorem dX7_gateOf_82 : decode cX7_gateOf 82 = .ok (.lload_n 0, 1) := by decide +kernel
theorem dX7_gateOf_83 : decode cX7_gateOf 83 = .ok (.ldc2_w 129, 3) := by decide +kernel
theorem dX7_gateOf_86 : decode cX7_gateOf 86 = .ok (.lcmp, 1) := by decide +kernel
theorem dX7_gateOf_87 : decode cX7_gateOf 87 = .ok (.ifCond .ne 6, 3) := by decide +kernel
theorem dX7_gateOf_90 : decode cX7_gateOf 90 = .ok (.bipush 8, 2) := by decide +kernel
theorem dX7_gateOf_92 : decode cX7_gateOf 92 = .ok (.ireturn, 1) := by decide +kernel
theorem dX7_gateOf_93 : decode cX7_gateOf 93 = .ok (.iconst (-1), 1) := by decide +kernel
theorem dX7_gateOf_94 : decode cX7_gateOf 94 = .ok (.ireturn, 1) := by decide +kernel
set_option maxRecDepth 20000 in
theorem ggX7_next_X7_sign : GoodIn wsX7_next wsX7_sign := goodIn_r _ [16, 3, 17, 36, 37, 38, 39, 40, 41, 42, 43, 44, 45, 46, 47, 48, 49, 50, 51, 52, 53, 54, 55, 56, 57, 58, 59, 60, 61, 62, 63, 64, 65, 66, 67, 68, 69, 70, 71, 72, 73, 74, 75, 76, 77, 78, 79, 80, 81, 82, 83, 84] (by decide +kernel) (by decide +kernel)
set_option maxRecDepth 20000 in
theorem gX7_next_X7_sign : GoodIn wsX7_next (wsV RX7 137 RX7 yX7_sign wsX7_sign) := goodIn_app (goodIn_of _ (by decide +kernel)) ggX7_next_X7_sign
set_option maxRecDepth 20000 in
theorem ggX7_next_X7_isLetter : GoodIn wsX7_next wsX7_isLetter := goodIn_r _ [20] (by decide +kernel) (by decide +kernel)
set_option maxRecDepth 20000 in
theorem gX7_next_X7_isLetter : GoodIn wsX7_next (va_wsS RX7 144 yX7_isLetter wsX7_isLetter) := goodIn_app (goodIn_of _ (by decide +kernel)) ggX7_next_X7_isLetter
set_option maxRecDepth 20000 in
theorem ggX7_next_X7_isDigit : GoodIn wsX7_next wsX7_isDigit := goodIn_r _ [23] (by decide +kernel) (by decide +kernel)
set_option maxRecDepth 20000 in
theorem gX7_next_X7_isDigit : GoodIn wsX7_next (va_wsS RX7 148 yX7_isDigit wsX7_isDigit) := goodIn_app (goodIn_of _ (by decide +kernel)) ggX7_next_X7_isDigit
set_option maxRecDepth 20000 in
theorem ggX7_next_X7_gateOf : GoodIn wsX7_next wsX7_gateOf := goodIn_r _ [26, 27, 28, 29, 30, 31, 32, 33, 34, 35] (by decide +kernel) (by decide +kernel)
set_option maxRecDepth 20000 in
theorem gX7_next_X7_gateOf : GoodIn wsX7_next (va_wsS RX7 155 yX7_gateOf wsX7_gateOf) := goodIn_app (goodIn_of _ (by decide +kernel)) ggX7_next_X7_gateOf
theorem dX7_next_0 : decode cX7_next 0 = .ok (.aload_n 0, 1) := by decide +kernel
theorem dX7_next_1 : decode cX7_next 1 = .ok (.aload_n 0, 1) := by decide +kernel
theorem dX7_next_2 : decode cX7_next 2 = .ok (.getfield 131, 3) := by decide +kernel
theorem dX7_next_5 : decode cX7_next 5 = .ok (.putfield 134, 3) := by decide +kernel
theorem dX7_next_8 : decode cX7_next 8 = .ok (.aload_n 0, 1) := by decide +kernel
theorem dX7_next_9 : decode cX7_next 9 = .ok (.getfield 134, 3) := by decide +kernel
theorem dX7_next_12 : decode cX7_next 12 = .ok (.aload_n 0, 1) := by decide +kernel
theorem dX7_next_13 : decode cX7_next 13 = .ok (.getfield 107, 3) := by decide +kernel
theorem dX7_next_16 : decode cX7_next 16 = .ok (.if_icmp .ge 42, 3) := by decide +kernel
theorem dX7_next_19 : decode cX7_next 19 = .ok (.aload_n 0, 1) := by decide +kernel
theorem dX7_next_20 : decode cX7_next 20 = .ok (.aload_n 0, 1) := by decide +kernel
theorem dX7_next_21 : decode cX7_next 21 = .ok (.getfield 134, 3) := by decide +kernel
theorem dX7_next_24 : decode cX7_next 24 = .ok (.invokevirtual 137, 3) := by decide +kernel
theorem dX7_next_27 : decode cX7_next 27 = .ok (.bipush 32, 2) := by decide +kernel
theorem dX7_next_29 : decode cX7_next 29 = .ok (.if_icmp .eq 16, 3) := by decide +kernel
theorem dX7_next_32 : decode cX7_next 32 = .ok (.aload_n 0, 1) := by decide +kernel
theorem dX7_next_33 : decode cX7_next 33 = .ok (.aload_n 0, 1) := by decide +kernel
theorem dX7_next_34 : decode cX7_next 34 = .ok (.getfield 134, 3) := by decide +kernel
theorem dX7_next_37 : decode cX7_next 37 = .ok (.invokevirtual 137, 3) := by decide +kernel
theorem dX7_next_40 : decode cX7_next 40 = .ok (.bipush 10, 2) := by decide +kernel
theorem dX7_next_42 : decode cX7_next 42 = .ok (.if_icmp .ne 16, 3) := by decide +kernel
theorem dX7_next_45 : decode cX7_next 45 = .ok (.aload_n 0, 1) := by decide +kernel
theorem dX7_next_46 : decode cX7_next 46 = .ok (.dup, 1) := by decide +kernel
theorem dX7_next_47 : decode cX7_next 47 = .ok (.getfield 134, 3) := by decide +kernel
theorem dX7_next_50 : decode cX7_next 50 = .ok (.iconst 1, 1) := by decide +kernel
theorem dX7_next_51 : decode cX7_next 51 = .ok (.iadd, 1) := by decide +kernel
theorem dX7_next_52 : decode cX7_next 52 = .ok (.putfield 134, 3) := by decide +kernel
theorem dX7_next_55 : decode cX7_next 55 = .ok (.goto (-47), 3) := by decide +kernel
theorem dX7_next_58 : decode cX7_next 58 = .ok (.aload_n 0, 1) := by decide +kernel
theorem dX7_next_59 : decode cX7_next 59 = .ok (.aload_n 0, 1) := by decide +kernel
theorem dX7_next_60 : decode cX7_next 60 = .ok (.getfield 134, 3) := by decide +kernel
theorem dX7_next_63 : decode cX7_next 63 = .ok (.invokevirtual 137, 3) := by decide +kernel
theorem dX7_next_66 : decode cX7_next 66 = .ok (.istore_n 1, 1) := by decide +kernel
theorem dX7_next_67 : decode cX7_next 67 = .ok (.aload_n 0, 1) := by decide +kernel
theorem dX7_next_68 : decode cX7_next 68 = .ok (.aload_n 0, 1) := by decide +kernel
theorem dX7_next_69 : decode cX7_next 69 = .ok (.getfield 134, 3) := by decide +kernel
theorem dX7_next_72 : decode cX7_next 72 = .ok (.iconst 1, 1) := by decide +kernel
theorem dX7_next_73 : decode cX7_next 73 = .ok (.iadd, 1) := by decide +kernel
theorem dX7_next_74 : decode cX7_next 74 = .ok (.putfield 131, 3) := by decide +kernel
theorem dX7_next_77 : decode cX7_next 77 = .ok (.aload_n 0, 1) := by decide +kernel
theorem dX7_next_78 : decode cX7_next 78 = .ok (.getfield 134, 3) := by decide +kernel
theorem dX7_next_81 : decode cX7_next 81 = .ok (.aload_n 0, 1) := by decide +kernel
theorem dX7_next_82 : decode cX7_next 82 = .ok (.getfield 107, 3) := by decide +kernel
theorem dX7_next_85 : decode cX7_next 85 = .ok (.if_icmp .lt 27, 3) := by decide +kernel
theorem dX7_next_88 : decode cX7_next 88 = .ok (.aload_n 0, 1) := by decide +kernel
theorem dX7_next_89 : decode cX7_next 89 = .ok (.iconst 0, 1) := by decide +kernel
theorem dX7_next_90 : decode cX7_next 90 = .ok (.putfield 141, 3) := by decide +kernel
theorem dX7_next_93 : decode cX7_next 93 = .ok (.aload_n 0, 1) := by decide +kernel
theorem dX7_next_94 : decode cX7_next 94 = .ok (.aload_n 0, 1) := by decide +kernel
theorem dX7_next_95 : decode cX7_next 95 = .ok (.getfield 107, 3) := by decide +kernel
theorem dX7_next_98 : decode cX7_next 98 = .ok (.putfield 134, 3) := by decide +kernel
theorem dX7_next_101 : decode cX7_next 101 = .ok (.aload_n 0, 1) := by decide +kernel
theorem dX7_next_102 : decode cX7_next 102 = .ok (.aload_n 0, 1) := by decide +kernel
theorem dX7_next_103 : decode cX7_next 103 = .ok (.getfield 107, 3) := by decide +kernel
theorem dX7_next_106 : decode cX7_next 106 = .ok (.putfield 131, 3) := by decide +kernel
theorem dX7_next_109 : decode cX7_next 109 = .ok (.goto 315, 3) := by decide +kernel
theorem dX7_next_112 : decode cX7_next 112 = .ok (.iload_n 1, 1) := by decide +kernel
theorem dX7_next_113 : decode cX7_next 113 = .ok (.invokestatic 144, 3) := by decide +kernel
theorem dX7_next_116 : decode cX7_next 116 = .ok (.ifCond .eq 202, 3) := by decide +kernel
theorem dX7_next_119 : decode cX7_next 119 = .ok (.aload_n 0, 1) := by decide +kernel
theorem dX7_next_120 : decode cX7_next 120 = .ok (.aload_n 0, 1) := by decide +kernel
theorem dX7_next_121 : decode cX7_next 121 = .ok (.getfield 131, 3) := by decide +kernel
theorem dX7_next_124 : decode cX7_next 124 = .ok (.invokevirtual 137, 3) := by decide +kernel
theorem dX7_next_127 : decode cX7_next 127 = .ok (.invokestatic 144, 3) := by decide +kernel
theorem dX7_next_130 : decode cX7_next 130 = .ok (.ifCond .ne 17, 3) := by decide +kernel
theorem dX7_next_133 : decode cX7_next 133 = .ok (.aload_n 0, 1) := by decide +kernel
theorem dX7_next_134 : decode cX7_next 134 = .ok (.aload_n 0, 1) := by decide +kernel
theorem dX7_next_135 : decode cX7_next 135 = .ok (.getfield 131, 3) := by decide +kernel
theorem dX7_next_138 : decode cX7_next 138 = .ok (.invokevirtual 137, 3) := by decide +kernel
theorem dX7_next_141 : decode cX7_next 141 = .ok (.invokestatic 148, 3) := by decide +kernel
theorem dX7_next_144 : decode cX7_next 144 = .ok (.ifCond .eq 16, 3) := by decide +kernel
theorem dX7_next_147 : decode cX7_next 147 = .ok (.aload_n 0, 1) := by decide +kernel
theorem dX7_next_148 : decode cX7_next 148 = .ok (.dup, 1) := by decide +kernel
theorem dX7_next_149 : decode cX7_next 149 = .ok (.getfield 131, 3) := by decide +kernel
theorem dX7_next_152 : decode cX7_next 152 = .ok (.iconst 1, 1) := by decide +kernel
theorem dX7_next_153 : decode cX7_next 153 = .ok (.iadd, 1) := by decide +kernel
theorem dX7_next_154 : decode cX7_next 154 = .ok (.putfield 131, 3) := by decide +kernel
theorem dX7_next_157 : decode cX7_next 157 = .ok (.goto (-38), 3) := by decide +kernel
theorem dX7_next_160 : decode cX7_next 160 = .ok (.aload_n 0, 1) := by decide +kernel
theorem dX7_next_161 : decode cX7_next 161 = .ok (.lconst 0, 1) := by decide +kernel
theorem dX7_next_162 : decode cX7_next 162 = .ok (.putfield 151, 3) := by decide +kernel
theorem dX7_next_165 : decode cX7_next 165 = .ok (.aload_n 0, 1) := by decide +kernel
theorem dX7_next_166 : decode cX7_next 166 = .ok (.getfield 134, 3) := by decide +kernel
theorem dX7_next_169 : decode cX7_next 169 = .ok (.istore_n 2, 1) := by decide +kernel
theorem dX7_next_170 : decode cX7_next 170 = .ok (.iload_n 2, 1) := by decide +kernel
theorem dX7_next_171 : decode cX7_next 171 = .ok (.aload_n 0, 1) := by decide +kernel
theorem dX7_next_172 : decode cX7_next 172 = .ok (.getfield 131, 3) := by decide +kernel
theorem dX7_next_175 : decode cX7_next 175 = .ok (.if_icmp .ge 38, 3) := by decide +kernel
theorem dX7_next_178 : decode cX7_next 178 = .ok (.iload_n 2, 1) := by decide +kernel
theorem dX7_next_179 : decode cX7_next 179 = .ok (.aload_n 0, 1) := by decide +kernel
theorem dX7_next_180 : decode cX7_next 180 = .ok (.getfield 134, 3) := by decide +kernel
theorem dX7_next_183 : decode cX7_next 183 = .ok (.bipush 8, 2) := by decide +kernel
theorem dX7_next_185 : decode cX7_next 185 = .ok (.iadd, 1) := by decide +kernel
theorem dX7_next_186 : decode cX7_next 186 = .ok (.if_icmp .ge 27, 3) := by decide +kernel
theorem dX7_next_189 : decode cX7_next 189 = .ok (.aload_n 0, 1) := by decide +kernel
theorem dX7_next_190 : decode cX7_next 190 = .ok (.aload_n 0, 1) := by decide +kernel
theorem dX7_next_191 : decode cX7_next 191 = .ok (.getfield 151, 3) := by decide +kernel
theorem dX7_next_194 : decode cX7_next 194 = .ok (.bipush 8, 2) := by decide +kernel
theorem dX7_next_196 : decode cX7_next 196 = .ok (.lshl, 1) := by decide +kernel
theorem dX7_next_197 : decode cX7_next 197 = .ok (.aload_n 0, 1) := by decide +kernel
theorem dX7_next_198 : decode cX7_next 198 = .ok (.iload_n 2, 1) := by decide +kernel
theorem dX7_next_199 : decode cX7_next 199 = .ok (.invokevirtual 137, 3) := by decide +kernel
theorem dX7_next_202 : decode cX7_next 202 = .ok (.i2l, 1) := by decide +kernel
theorem dX7_next_203 : decode cX7_next 203 = .ok (.lor, 1) := by decide +kernel
theorem dX7_next_204 : decode cX7_next 204 = .ok (.putfield 151, 3) := by decide +kernel
theorem dX7_next_207 : decode cX7_next 207 = .ok (.iinc 2 1, 3) := by decide +kernel
theorem dX7_next_210 : decode cX7_next 210 = .ok (.goto (-40), 3) := by decide +kernel
theorem dX7_next_213 : decode cX7_next 213 = .ok (.aload_n 0, 1) := by decide +kernel
theorem dX7_next_214 : decode cX7_next 214 = .ok (.getfield 151, 3) := by decide +kernel
theorem dX7_next_217 : decode cX7_next 217 = .ok (.invokestatic 155, 3) := by decide +kernel
theorem dX7_next_220 : decode cX7_next 220 = .ok (.ifCond .ge 58, 3) := by decide +kernel
theorem dX7_next_223 : decode cX7_next 223 = .ok (.aload_n 0, 1) := by decide +kernel
theorem dX7_next_224 : decode cX7_next 224 = .ok (.getfield 151, 3) := by decide +kernel
theorem dX7_next_227 : decode cX7_next 227 = .ok (.ldc2_w 159, 3) := by decide +kernel
theorem dX7_next_230 : decode cX7_next 230 = .ok (.lcmp, 1) := by decide +kernel
theorem dX7_next_231 : decode cX7_next 231 = .ok (.ifCond .eq 47, 3) := by decide +kernel
theorem dX7_next_234 : decode cX7_next 234 = .ok (.aload_n 0, 1) := by decide +kernel
theorem dX7_next_235 : decode cX7_next 235 = .ok (.getfield 151, 3) := by decide +kernel
theorem dX7_next_238 : decode cX7_next 238 = .ok (.ldc2_w 161, 3) := by decide +kernel
theorem dX7_next_241 : decode cX7_next 241 = .ok (.lcmp, 1) := by decide +kernel
theorem dX7_next_242 : decode cX7_next 242 = .ok (.ifCond .eq 36, 3) := by decide +kernel
theorem dX7_next_245 : decode cX7_next 245 = .ok (.aload_n 0, 1) := by decide +kernel
theorem dX7_next_246 : decode cX7_next 246 = .ok (.getfield 151, 3) := by decide +kernel
theorem dX7_next_249 : decode cX7_next 249 = .ok (.ldc2_w 163, 3) := by decide +kernel
theorem dX7_next_252 : decode cX7_next 252 = .ok (.lcmp, 1) := by decide +kernel
theorem dX7_next_253 : decode cX7_next 253 = .ok (.ifCond .eq 25, 3) := by decide +kernel
theorem dX7_next_256 : decode cX7_next 256 = .ok (.aload_n 0, 1) := by decide +kernel
theorem dX7_next_257 : decode cX7_next 257 = .ok (.getfield 151, 3) := by decide +kernel
theorem dX7_next_260 : decode cX7_next 260 = .ok (.ldc2_w 165, 3) := by decide +kernel
theorem dX7_next_263 : decode cX7_next 263 = .ok (.lcmp, 1) := by decide +kernel
theorem dX7_next_264 : decode cX7_next 264 = .ok (.ifCond .eq 14, 3) := by decide +kernel
theorem dX7_next_267 : decode cX7_next 267 = .ok (.aload_n 0, 1) := by decide +kernel
theorem dX7_next_268 : decode cX7_next 268 = .ok (.getfield 151, 3) := by decide +kernel
theorem dX7_next_271 : decode cX7_next 271 = .ok (.ldc2_w 167, 3) := by decide +kernel
theorem dX7_next_274 : decode cX7_next 274 = .ok (.lcmp, 1) := by decide +kernel
theorem dX7_next_275 : decode cX7_next 275 = .ok (.ifCond .ne 7, 3) := by decide +kernel
theorem dX7_next_278 : decode cX7_next 278 = .ok (.iconst 1, 1) := by decide +kernel
theorem dX7_next_279 : decode cX7_next 279 = .ok (.goto 4, 3) := by decide +kernel
theorem dX7_next_282 : decode cX7_next 282 = .ok (.iconst 0, 1) := by decide +kernel
theorem dX7_next_283 : decode cX7_next 283 = .ok (.istore_n 2, 1) := by decide +kernel
theorem dX7_next_284 : decode cX7_next 284 = .ok (.aload_n 0, 1) := by decide +kernel
theorem dX7_next_285 : decode cX7_next 285 = .ok (.aload_n 0, 1) := by decide +kernel
theorem dX7_next_286 : decode cX7_next 286 = .ok (.getfield 131, 3) := by decide +kernel
theorem dX7_next_289 : decode cX7_next 289 = .ok (.aload_n 0, 1) := by decide +kernel
theorem dX7_next_290 : decode cX7_next 290 = .ok (.getfield 134, 3) := by decide +kernel
theorem dX7_next_293 : decode cX7_next 293 = .ok (.isub, 1) := by decide +kernel
theorem dX7_next_294 : decode cX7_next 294 = .ok (.bipush 8, 2) := by decide +kernel
theorem dX7_next_296 : decode cX7_next 296 = .ok (.if_icmp .le 7, 3) := by decide +kernel
theorem dX7_next_299 : decode cX7_next 299 = .ok (.iconst 1, 1) := by decide +kernel
theorem dX7_next_300 : decode cX7_next 300 = .ok (.goto 12, 3) := by decide +kernel
theorem dX7_next_303 : decode cX7_next 303 = .ok (.iload_n 2, 1) := by decide +kernel
theorem dX7_next_304 : decode cX7_next 304 = .ok (.ifCond .eq 7, 3) := by decide +kernel
theorem dX7_next_307 : decode cX7_next 307 = .ok (.iconst 3, 1) := by decide +kernel
theorem dX7_next_308 : decode cX7_next 308 = .ok (.goto 4, 3) := by decide +kernel
theorem dX7_next_311 : decode cX7_next 311 = .ok (.iconst 2, 1) := by decide +kernel
theorem dX7_next_312 : decode cX7_next 312 = .ok (.putfield 141, 3) := by decide +kernel
theorem dX7_next_315 : decode cX7_next 315 = .ok (.goto 109, 3) := by decide +kernel
theorem dX7_next_318 : decode cX7_next 318 = .ok (.iload_n 1, 1) := by decide +kernel
theorem dX7_next_319 : decode cX7_next 319 = .ok (.invokestatic 148, 3) := by decide +kernel
theorem dX7_next_322 : decode cX7_next 322 = .ok (.ifCond .eq 57, 3) := by decide +kernel
theorem dX7_next_325 : decode cX7_next 325 = .ok (.aload_n 0, 1) := by decide +kernel
theorem dX7_next_326 : decode cX7_next 326 = .ok (.iload_n 1, 1) := by decide +kernel
theorem dX7_next_327 : decode cX7_next 327 = .ok (.bipush 48, 2) := by decide +kernel
theorem dX7_next_329 : decode cX7_next 329 = .ok (.isub, 1) := by decide +kernel
theorem dX7_next_330 : decode cX7_next 330 = .ok (.putfield 169, 3) := by decide +kernel
theorem dX7_next_333 : decode cX7_next 333 = .ok (.aload_n 0, 1) := by decide +kernel
theorem dX7_next_334 : decode cX7_next 334 = .ok (.iload_n 1, 1) := by decide +kernel
theorem dX7_next_335 : decode cX7_next 335 = .ok (.bipush 48, 2) := by decide +kernel
theorem dX7_next_337 : decode cX7_next 337 = .ok (.if_icmp .eq 31, 3) := by decide +kernel
theorem dX7_next_340 : decode cX7_next 340 = .ok (.aload_n 0, 1) := by decide +kernel
theorem dX7_next_341 : decode cX7_next 341 = .ok (.aload_n 0, 1) := by decide +kernel
theorem dX7_next_342 : decode cX7_next 342 = .ok (.getfield 131, 3) := by decide +kernel
theorem dX7_next_345 : decode cX7_next 345 = .ok (.invokevirtual 137, 3) := by decide +kernel
theorem dX7_next_348 : decode cX7_next 348 = .ok (.invokestatic 144, 3) := by decide +kernel
theorem dX7_next_351 : decode cX7_next 351 = .ok (.ifCond .ne 17, 3) := by decide +kernel
theorem dX7_next_354 : decode cX7_next 354 = .ok (.aload_n 0, 1) := by decide +kernel
theorem dX7_next_355 : decode cX7_next 355 = .ok (.aload_n 0, 1) := by decide +kernel
theorem dX7_next_356 : decode cX7_next 356 = .ok (.getfield 131, 3) := by decide +kernel
theorem dX7_next_359 : decode cX7_next 359 = .ok (.invokevirtual 137, 3) := by decide +kernel
theorem dX7_next_362 : decode cX7_next 362 = .ok (.invokestatic 148, 3) := by decide +kernel
theorem dX7_next_365 : decode cX7_next 365 = .ok (.ifCond .eq 7, 3) := by decide +kernel
theorem dX7_next_368 : decode cX7_next 368 = .ok (.iconst 1, 1) := by decide +kernel
theorem dX7_next_369 : decode cX7_next 369 = .ok (.goto 4, 3) := by decide +kernel
theorem dX7_next_372 : decode cX7_next 372 = .ok (.iconst 4, 1) := by decide +kernel
theorem dX7_next_373 : decode cX7_next 373 = .ok (.putfield 141, 3) := by decide +kernel
theorem dX7_next_376 : decode cX7_next 376 = .ok (.goto 48, 3) := by decide +kernel
theorem dX7_next_379 : decode cX7_next 379 = .ok (.aload_n 0, 1) := by decide +kernel
theorem dX7_next_380 : decode cX7_next 380 = .ok (.iload_n 1, 1) := by decide +kernel
theorem dX7_next_381 : decode cX7_next 381 = .ok (.bipush 44, 2) := by decide +kernel
theorem dX7_next_383 : decode cX7_next 383 = .ok (.if_icmp .eq 33, 3) := by decide +kernel
theorem dX7_next_386 : decode cX7_next 386 = .ok (.iload_n 1, 1) := by decide +kernel
theorem dX7_next_387 : decode cX7_next 387 = .ok (.bipush 59, 2) := by decide +kernel
theorem dX7_next_389 : decode cX7_next 389 = .ok (.if_icmp .eq 27, 3) := by decide +kernel
theorem dX7_next_392 : decode cX7_next 392 = .ok (.iload_n 1, 1) := by decide +kernel
theorem dX7_next_393 : decode cX7_next 393 = .ok (.bipush 61, 2) := by decide +kernel
theorem dX7_next_395 : decode cX7_next 395 = .ok (.if_icmp .eq 21, 3) := by decide +kernel
theorem dX7_next_398 : decode cX7_next 398 = .ok (.iload_n 1, 1) := by decide +kernel
theorem dX7_next_399 : decode cX7_next 399 = .ok (.bipush 40, 2) := by decide +kernel
theorem dX7_next_401 : decode cX7_next 401 = .ok (.if_icmp .eq 15, 3) := by decide +kernel
theorem dX7_next_404 : decode cX7_next 404 = .ok (.iload_n 1, 1) := by decide +kernel
theorem dX7_next_405 : decode cX7_next 405 = .ok (.bipush 41, 2) := by decide +kernel
theorem dX7_next_407 : decode cX7_next 407 = .ok (.if_icmp .eq 9, 3) := by decide +kernel
theorem dX7_next_410 : decode cX7_next 410 = .ok (.iload_n 1, 1) := by decide +kernel
theorem dX7_next_411 : decode cX7_next 411 = .ok (.bipush 60, 2) := by decide +kernel
theorem dX7_next_413 : decode cX7_next 413 = .ok (.if_icmp .ne 7, 3) := by decide +kernel
theorem dX7_next_416 : decode cX7_next 416 = .ok (.iconst 5, 1) := by decide +kernel
theorem dX7_next_417 : decode cX7_next 417 = .ok (.goto 4, 3) := by decide +kernel
theorem dX7_next_420 : decode cX7_next 420 = .ok (.iconst 1, 1) := by decide +kernel
theorem dX7_next_421 : decode cX7_next 421 = .ok (.putfield 141, 3) := by decide +kernel
theorem dX7_next_424 : decode cX7_next 424 = .ok (.return_, 1) := by decide +kernel
set_option maxRecDepth 20000 in
theorem ggX7_is_X7_sign : GoodIn wsX7_is wsX7_sign := goodIn_r _ [7, 8, 9, 10, 11, 12, 13, 14, 15, 16, 17, 18, 19, 20, 21, 22, 23, 24, 25, 26, 27, 28, 29, 30, 31, 32, 33, 34, 35, 36, 37, 38, 39, 40, 41, 42, 43, 44, 45, 46, 47, 48, 49, 50, 51, 52, 53, 54, 55, 56, 57, 58] (by decide +kernel) (by decide +kernel)
set_option maxRecDepth 20000 in
theorem gX7_is_X7_sign : GoodIn wsX7_is (wsV RX7 137 RX7 yX7_sign wsX7_sign) := goodIn_app (goodIn_of _ (by decide +kernel)) ggX7_is_X7_sign
theorem dX7_is_0 : decode cX7_is 0 = .ok (.aload_n 0, 1) := by decide +kernel
theorem dX7_is_1 : decode cX7_is 1 = .ok (.getfield 141, 3) := by decide +kernel
theorem dX7_is_4 : decode cX7_is 4 = .ok (.iconst 5, 1) := by decide +kernel
theorem dX7_is_5 : decode cX7_is 5 = .ok (.if_icmp .ne 19, 3) := by decide +kernel
theorem dX7_is_8 : decode cX7_is 8 = .ok (.aload_n 0, 1) := by decide +kernel
theorem dX7_is_9 : decode cX7_is 9 = .ok (.aload_n 0, 1) := by decide +kernel
theorem dX7_is_10 : decode cX7_is 10 = .ok (.getfield 134, 3) := by decide +kernel
theorem dX7_is_13 : decode cX7_is 13 = .ok (.invokevirtual 137, 3) := by decide +kernel
theorem dX7_is_16 : decode cX7_is 16 = .ok (.iload_n 1, 1) := by decide +kernel
theorem dX7_is_17 : decode cX7_is 17 = .ok (.if_icmp .ne 7, 3) := by decide +kernel
theorem dX7_is_20 : decode cX7_is 20 = .ok (.iconst 1, 1) := by decide +kernel
theorem dX7_is_21 : decode cX7_is 21 = .ok (.goto 4, 3) := by decide +kernel
theorem dX7_is_24 : decode cX7_is 24 = .ok (.iconst 0, 1) := by decide +kernel
theorem dX7_is_25 : decode cX7_is 25 = .ok (.ireturn, 1) := by decide +kernel
theorem dX7_isWord_0 : decode cX7_isWord 0 = .ok (.aload_n 0, 1) := by decide +kernel
theorem dX7_isWord_1 : decode cX7_isWord 1 = .ok (.getfield 141, 3) := by decide +kernel
theorem dX7_isWord_4 : decode cX7_isWord 4 = .ok (.iconst 3, 1) := by decide +kernel
theorem dX7_isWord_5 : decode cX7_isWord 5 = .ok (.if_icmp .ne 16, 3) := by decide +kernel
theorem dX7_isWord_8 : decode cX7_isWord 8 = .ok (.aload_n 0, 1) := by decide +kernel
theorem dX7_isWord_9 : decode cX7_isWord 9 = .ok (.getfield 151, 3) := by decide +kernel
theorem dX7_isWord_12 : decode cX7_isWord 12 = .ok (.lload_n 1, 1) := by decide +kernel
theorem dX7_isWord_13 : decode cX7_isWord 13 = .ok (.lcmp, 1) := by decide +kernel
theorem dX7_isWord_14 : decode cX7_isWord 14 = .ok (.ifCond .ne 7, 3) := by decide +kernel
theorem dX7_isWord_17 : decode cX7_isWord 17 = .ok (.iconst 1, 1) := by decide +kernel
theorem dX7_isWord_18 : decode cX7_isWord 18 = .ok (.goto 4, 3) := by decide +kernel
theorem dX7_isWord_21 : decode cX7_isWord 21 = .ok (.iconst 0, 1) := by decide +kernel
theorem dX7_isWord_22 : decode cX7_isWord 22 = .ok (.ireturn, 1) := by decide +kernel
set_option maxRecDepth 20000 in
theorem ggX7_wrong_X7_fails : GoodIn wsX7_wrong wsX7_fails := goodIn_r _ [7, 8, 9, 10, 11, 12, 13, 14, 15, 16, 17, 18, 19, 20, 21, 22, 23, 24, 25, 26, 27, 28, 29, 30, 31, 32, 33, 34, 35, 36, 37, 38, 39, 40, 41, 42, 43, 44, 45, 46, 47, 48, 49, 50, 51, 52, 53, 54, 55, 56, 57, 58] (by decide +kernel) (by decide +kernel)
set_option maxRecDepth 20000 in
theorem gX7_wrong_X7_fails : GoodIn wsX7_wrong (wsV RX7 172 RX7 yX7_fails wsX7_fails) := goodIn_app (goodIn_of _ (by decide +kernel)) ggX7_wrong_X7_fails
theorem dX7_wrong_0 : decode cX7_wrong 0 = .ok (.aload_n 0, 1) := by decide +kernel
theorem dX7_wrong_1 : decode cX7_wrong 1 = .ok (.aload_n 0, 1) := by decide +kernel
theorem dX7_wrong_2 : decode cX7_wrong 2 = .ok (.getfield 141, 3) := by decide +kernel
theorem dX7_wrong_5 : decode cX7_wrong 5 = .ok (.iconst 1, 1) := by decide +kernel
theorem dX7_wrong_6 : decode cX7_wrong 6 = .ok (.if_icmp .ne 7, 3) := by decide +kernel
theorem dX7_wrong_9 : decode cX7_wrong 9 = .ok (.iconst 1, 1) := by decide +kernel
theorem dX7_wrong_10 : decode cX7_wrong 10 = .ok (.goto 4, 3) := by decide +kernel
theorem dX7_wrong_13 : decode cX7_wrong 13 = .ok (.iconst 2, 1) := by decide +kernel
theorem dX7_wrong_14 : decode cX7_wrong 14 = .ok (.aload_n 0, 1) := by decide +kernel
theorem dX7_wrong_15 : decode cX7_wrong 15 = .ok (.getfield 134, 3) := by decide +kernel
theorem dX7_wrong_18 : decode cX7_wrong 18 = .ok (.invokevirtual 172, 3) := by decide +kernel
theorem dX7_wrong_21 : decode cX7_wrong 21 = .ok (.return_, 1) := by decide +kernel
set_option maxRecDepth 20000 in
theorem ggX7_must_X7_is : GoodIn wsX7_must wsX7_is := goodIn_r _ [5, 6, 7, 8, 9, 10, 4, 11, 12, 13, 54, 55, 56, 57, 58, 59, 60, 61, 62, 63, 64, 65, 66, 67, 68, 69, 70, 71, 72, 73, 74, 75, 76, 77, 78, 79, 80, 81, 82, 83, 84, 85, 86, 87, 88, 89, 90, 91, 92, 93, 94, 95, 96, 97, 98, 99, 100, 101, 102] (by decide +kernel) (by decide +kernel)
set_option maxRecDepth 20000 in
theorem gX7_must_X7_is : GoodIn wsX7_must (wsV RX7 176 RX7 yX7_is wsX7_is) := goodIn_app (goodIn_of _ (by decide +kernel)) ggX7_must_X7_is
set_option maxRecDepth 20000 in
theorem ggX7_must_X7_next : GoodIn wsX7_must wsX7_next := goodIn_r _ [17, 18, 7, 12, 6, 19, 20, 21, 22, 23, 24, 25, 8, 9, 10, 4, 11, 13, 26, 27, 28, 29, 30, 31, 32, 33, 34, 35, 36, 37, 38, 39, 40, 41, 42, 43, 54, 55, 56, 57, 58, 59, 60, 61, 62, 63, 64, 65, 66, 67, 68, 69, 70, 71, 72, 73, 74, 75, 76, 77, 78, 79, 80, 81, 82, 83, 84, 85, 86, 87, 88, 89, 90, 91, 92, 93, 94, 95, 96, 97, 98, 99, 100, 101, 102] (by decide +kernel) (by decide +kernel)
set_option maxRecDepth 20000 in
theorem gX7_must_X7_next : GoodIn wsX7_must (wsV RX7 179 RX7 yX7_next wsX7_next) := goodIn_app (goodIn_of _ (by decide +kernel)) ggX7_must_X7_next
set_option maxRecDepth 20000 in
theorem ggX7_must_X7_wrong : GoodIn wsX7_must wsX7_wrong := goodIn_r _ [47, 6, 7, 48, 49, 50, 4, 51, 52, 53, 54, 55, 56, 57, 58, 59, 60, 61, 62, 63, 64, 65, 66, 67, 68, 69, 70, 71, 72, 73, 74, 75, 76, 77, 78, 79, 80, 81, 82, 83, 84, 85, 86, 87, 88, 89, 90, 91, 92, 93, 94, 95, 96, 97, 98, 99, 100, 101, 102] (by decide +kernel) (by decide +kernel)
set_option maxRecDepth 20000 in
theorem gX7_must_X7_wrong : GoodIn wsX7_must (wsV RX7 182 RX7 yX7_wrong wsX7_wrong) := goodIn_app (goodIn_of _ (by decide +kernel)) ggX7_must_X7_wrong
theorem dX7_must_0 : decode cX7_must 0 = .ok (.aload_n 0, 1) := by decide +kernel
theorem dX7_must_1 : decode cX7_must 1 = .ok (.iload_n 1, 1) := by decide +kernel
theorem dX7_must_2 : decode cX7_must 2 = .ok (.invokevirtual 176, 3) := by decide +kernel
theorem dX7_must_5 : decode cX7_must 5 = .ok (.ifCond .eq 10, 3) := by decide +kernel
theorem dX7_must_8 : decode cX7_must 8 = .ok (.aload_n 0, 1) := by decide +kernel
theorem dX7_must_9 : decode cX7_must 9 = .ok (.invokevirtual 179, 3) := by decide +kernel
theorem dX7_must_12 : decode cX7_must 12 = .ok (.goto 7, 3) := by decide +kernel
theorem dX7_must_15 : decode cX7_must 15 = .ok (.aload_n 0, 1) := by decide +kernel
theorem dX7_must_16 : decode cX7_must 16 = .ok (.invokevirtual 182, 3) := by decide +kernel
theorem dX7_must_19 : decode cX7_must 19 = .ok (.return_, 1) := by decide +kernel
theorem dX7_newOf_0 : decode cX7_newOf 0 = .ok (.iconst 0, 1) := by decide +kernel
theorem dX7_newOf_1 : decode cX7_newOf 1 = .ok (.istore_n 3, 1) := by decide +kernel
theorem dX7_newOf_2 : decode cX7_newOf 2 = .ok (.iload_n 3, 1) := by decide +kernel
theorem dX7_newOf_3 : decode cX7_newOf 3 = .ok (.aload_n 0, 1) := by decide +kernel
theorem dX7_newOf_4 : decode cX7_newOf 4 = .ok (.getfield 185, 3) := by decide +kernel
theorem dX7_newOf_7 : decode cX7_newOf 7 = .ok (.if_icmp .ge 30, 3) := by decide +kernel
theorem dX7_newOf_10 : decode cX7_newOf 10 = .ok (.aload_n 0, 1) := by decide +kernel
theorem dX7_newOf_11 : decode cX7_newOf 11 = .ok (.getfield 20, 3) := by decide +kernel
theorem dX7_newOf_14 : decode cX7_newOf 14 = .ok (.bipush 60, 2) := by decide +kernel
theorem dX7_newOf_16 : decode cX7_newOf 16 = .ok (.aload_n 0, 1) := by decide +kernel
theorem dX7_newOf_17 : decode cX7_newOf 17 = .ok (.getfield 188, 3) := by decide +kernel
theorem dX7_newOf_20 : decode cX7_newOf 20 = .ok (.imul, 1) := by decide +kernel
theorem dX7_newOf_21 : decode cX7_newOf 21 = .ok (.iload_n 3, 1) := by decide +kernel
theorem dX7_newOf_22 : decode cX7_newOf 22 = .ok (.iadd, 1) := by decide +kernel
theorem dX7_newOf_23 : decode cX7_newOf 23 = .ok (.laload, 1) := by decide +kernel
theorem dX7_newOf_24 : decode cX7_newOf 24 = .ok (.lload_n 1, 1) := by decide +kernel
theorem dX7_newOf_25 : decode cX7_newOf 25 = .ok (.lcmp, 1) := by decide +kernel
theorem dX7_newOf_26 : decode cX7_newOf 26 = .ok (.ifCond .ne 5, 3) := by decide +kernel
theorem dX7_newOf_29 : decode cX7_newOf 29 = .ok (.iload_n 3, 1) := by decide +kernel
theorem dX7_newOf_30 : decode cX7_newOf 30 = .ok (.ireturn, 1) := by decide +kernel
theorem dX7_newOf_31 : decode cX7_newOf 31 = .ok (.iinc 3 1, 3) := by decide +kernel
theorem dX7_newOf_34 : decode cX7_newOf 34 = .ok (.goto (-32), 3) := by decide +kernel
theorem dX7_newOf_37 : decode cX7_newOf 37 = .ok (.iconst (-1), 1) := by decide +kernel
theorem dX7_newOf_38 : decode cX7_newOf 38 = .ok (.ireturn, 1) := by decide +kernel
set_option maxRecDepth 20000 in
theorem ggX7_tell_X7_wrong : GoodIn wsX7_tell wsX7_wrong := goodIn_r _ [16, 1, 4, 17, 18, 19, 15, 20, 21, 22, 66, 67, 68, 69, 70, 71, 72, 73, 74, 75, 76, 77, 78, 79, 80, 81, 82, 83, 84, 85, 86, 87, 88, 89, 90, 91, 92, 93, 94, 95, 96, 97, 98, 99, 100, 101, 102, 103, 104, 105, 106, 107, 108, 109, 110, 111, 112, 113, 114] (by decide +kernel) (by decide +kernel)
set_option maxRecDepth 20000 in
theorem gX7_tell_X7_wrong : GoodIn wsX7_tell (wsV RX7 182 RX7 yX7_wrong wsX7_wrong) := goodIn_app (goodIn_of _ (by decide +kernel)) ggX7_tell_X7_wrong
set_option maxRecDepth 20000 in
theorem ggX7_tell_X7_isGood : GoodIn wsX7_tell wsX7_isGood := goodIn_r _ [26, 21, 66, 67, 68, 69, 70, 71, 72, 73, 74, 75, 76, 77, 78, 79, 80, 81, 82, 83, 84, 85, 86, 87, 88, 89, 90, 91, 92, 93, 94, 95, 96, 97, 98, 99, 100, 101, 102, 103, 104, 105, 106, 107, 108, 109, 110, 111, 112, 113, 114] (by decide +kernel) (by decide +kernel)
set_option maxRecDepth 20000 in
theorem gX7_tell_X7_isGood : GoodIn wsX7_tell (wsV RX7 191 RX7 yX7_isGood wsX7_isGood) := goodIn_app (goodIn_of _ (by decide +kernel)) ggX7_tell_X7_isGood
set_option maxRecDepth 20000 in
theorem ggX7_tell_X7_newOf : GoodIn wsX7_tell wsX7_newOf := goodIn_r _ [30, 2, 6, 5, 66, 67, 68, 69, 70, 71, 72, 73, 74, 75, 76, 77, 78, 79, 80, 81, 82, 83, 84, 85, 86, 87, 88, 89, 90, 91, 92, 93, 94, 95, 96, 97, 98, 99, 100, 101, 102, 103, 104, 105, 106, 107, 108, 109, 110, 111, 112, 113, 114] (by decide +kernel) (by decide +kernel)
set_option maxRecDepth 20000 in
theorem gX7_tell_X7_newOf : GoodIn wsX7_tell (wsV RX7 195 RX7 yX7_newOf wsX7_newOf) := goodIn_app (goodIn_of _ (by decide +kernel)) ggX7_tell_X7_newOf
set_option maxRecDepth 20000 in
theorem ggX7_tell_X7_fails : GoodIn wsX7_tell wsX7_fails := goodIn_r _ [20, 21, 22, 66, 67, 68, 69, 70, 71, 72, 73, 74, 75, 76, 77, 78, 79, 80, 81, 82, 83, 84, 85, 86, 87, 88, 89, 90, 91, 92, 93, 94, 95, 96, 97, 98, 99, 100, 101, 102, 103, 104, 105, 106, 107, 108, 109, 110, 111, 112, 113, 114] (by decide +kernel) (by decide +kernel)
set_option maxRecDepth 20000 in
theorem gX7_tell_X7_fails : GoodIn wsX7_tell (wsV RX7 172 RX7 yX7_fails wsX7_fails) := goodIn_app (goodIn_of _ (by decide +kernel)) ggX7_tell_X7_fails
set_option maxRecDepth 20000 in
theorem ggX7_tell_X7_next : GoodIn wsX7_tell wsX7_next := goodIn_r _ [34, 35, 4, 36, 1, 3, 37, 38, 39, 40, 41, 42, 43, 44, 45, 15, 46, 47, 48, 49, 50, 51, 52, 53, 54, 55, 56, 57, 58, 59, 60, 61, 62, 63, 64, 65, 66, 67, 68, 69, 70, 71, 72, 73, 74, 75, 76, 77, 78, 79, 80, 81, 82, 83, 84, 85, 86, 87, 88, 89, 90, 91, 92, 93, 94, 95, 96, 97, 98, 99, 100, 101, 102, 103, 104, 105, 106, 107, 108, 109, 110, 111, 112, 113, 114] (by decide +kernel) (by decide +kernel)
set_option maxRecDepth 20000 in
theorem gX7_tell_X7_next : GoodIn wsX7_tell (wsV RX7 179 RX7 yX7_next wsX7_next) := goodIn_app (goodIn_of _ (by decide +kernel)) ggX7_tell_X7_next
theorem dX7_tell_0 : decode cX7_tell 0 = .ok (.aload_n 0, 1) := by decide +kernel
theorem dX7_tell_1 : decode cX7_tell 1 = .ok (.getfield 141, 3) := by decide +kernel
theorem dX7_tell_4 : decode cX7_tell 4 = .ok (.iconst 2, 1) := by decide +kernel
theorem dX7_tell_5 : decode cX7_tell 5 = .ok (.if_icmp .ne 12, 3) := by decide +kernel
theorem dX7_tell_8 : decode cX7_tell 8 = .ok (.aload_n 0, 1) := by decide +kernel
theorem dX7_tell_9 : decode cX7_tell 9 = .ok (.getfield 185, 3) := by decide +kernel
theorem dX7_tell_12 : decode cX7_tell 12 = .ok (.bipush 60, 2) := by decide +kernel
theorem dX7_tell_14 : decode cX7_tell 14 = .ok (.if_icmp .ne 7, 3) := by decide +kernel
theorem dX7_tell_17 : decode cX7_tell 17 = .ok (.aload_n 0, 1) := by decide +kernel
theorem dX7_tell_18 : decode cX7_tell 18 = .ok (.invokevirtual 182, 3) := by decide +kernel
theorem dX7_tell_21 : decode cX7_tell 21 = .ok (.aload_n 0, 1) := by decide +kernel
theorem dX7_tell_22 : decode cX7_tell 22 = .ok (.invokevirtual 191, 3) := by decide +kernel
theorem dX7_tell_25 : decode cX7_tell 25 = .ok (.ifCond .eq 23, 3) := by decide +kernel
theorem dX7_tell_28 : decode cX7_tell 28 = .ok (.aload_n 0, 1) := by decide +kernel
theorem dX7_tell_29 : decode cX7_tell 29 = .ok (.aload_n 0, 1) := by decide +kernel
theorem dX7_tell_30 : decode cX7_tell 30 = .ok (.getfield 151, 3) := by decide +kernel
theorem dX7_tell_33 : decode cX7_tell 33 = .ok (.invokevirtual 195, 3) := by decide +kernel
theorem dX7_tell_36 : decode cX7_tell 36 = .ok (.ifCond .lt 12, 3) := by decide +kernel
theorem dX7_tell_39 : decode cX7_tell 39 = .ok (.aload_n 0, 1) := by decide +kernel
theorem dX7_tell_40 : decode cX7_tell 40 = .ok (.iconst 3, 1) := by decide +kernel
theorem dX7_tell_41 : decode cX7_tell 41 = .ok (.aload_n 0, 1) := by decide +kernel
theorem dX7_tell_42 : decode cX7_tell 42 = .ok (.getfield 134, 3) := by decide +kernel
theorem dX7_tell_45 : decode cX7_tell 45 = .ok (.invokevirtual 172, 3) := by decide +kernel
theorem dX7_tell_48 : decode cX7_tell 48 = .ok (.aload_n 0, 1) := by decide +kernel
theorem dX7_tell_49 : decode cX7_tell 49 = .ok (.invokevirtual 191, 3) := by decide +kernel
theorem dX7_tell_52 : decode cX7_tell 52 = .ok (.ifCond .ne 5, 3) := by decide +kernel
theorem dX7_tell_55 : decode cX7_tell 55 = .ok (.iconst (-1), 1) := by decide +kernel
theorem dX7_tell_56 : decode cX7_tell 56 = .ok (.ireturn, 1) := by decide +kernel
theorem dX7_tell_57 : decode cX7_tell 57 = .ok (.bipush 60, 2) := by decide +kernel
theorem dX7_tell_59 : decode cX7_tell 59 = .ok (.aload_n 0, 1) := by decide +kernel
theorem dX7_tell_60 : decode cX7_tell 60 = .ok (.getfield 188, 3) := by decide +kernel
theorem dX7_tell_63 : decode cX7_tell 63 = .ok (.imul, 1) := by decide +kernel
theorem dX7_tell_64 : decode cX7_tell 64 = .ok (.aload_n 0, 1) := by decide +kernel
theorem dX7_tell_65 : decode cX7_tell 65 = .ok (.getfield 185, 3) := by decide +kernel
theorem dX7_tell_68 : decode cX7_tell 68 = .ok (.iadd, 1) := by decide +kernel
theorem dX7_tell_69 : decode cX7_tell 69 = .ok (.istore_n 2, 1) := by decide +kernel
theorem dX7_tell_70 : decode cX7_tell 70 = .ok (.aload_n 0, 1) := by decide +kernel
theorem dX7_tell_71 : decode cX7_tell 71 = .ok (.getfield 20, 3) := by decide +kernel
theorem dX7_tell_74 : decode cX7_tell 74 = .ok (.iload_n 2, 1) := by decide +kernel
theorem dX7_tell_75 : decode cX7_tell 75 = .ok (.aload_n 0, 1) := by decide +kernel
theorem dX7_tell_76 : decode cX7_tell 76 = .ok (.getfield 151, 3) := by decide +kernel
theorem dX7_tell_79 : decode cX7_tell 79 = .ok (.lastore, 1) := by decide +kernel
theorem dX7_tell_80 : decode cX7_tell 80 = .ok (.aload_n 0, 1) := by decide +kernel
theorem dX7_tell_81 : decode cX7_tell 81 = .ok (.getfield 24, 3) := by decide +kernel
theorem dX7_tell_84 : decode cX7_tell 84 = .ok (.iload_n 2, 1) := by decide +kernel
theorem dX7_tell_85 : decode cX7_tell 85 = .ok (.iload_n 1, 1) := by decide +kernel
theorem dX7_tell_86 : decode cX7_tell 86 = .ok (.iastore, 1) := by decide +kernel
theorem dX7_tell_87 : decode cX7_tell 87 = .ok (.aload_n 0, 1) := by decide +kernel
theorem dX7_tell_88 : decode cX7_tell 88 = .ok (.getfield 28, 3) := by decide +kernel
theorem dX7_tell_91 : decode cX7_tell 91 = .ok (.iload_n 2, 1) := by decide +kernel
theorem dX7_tell_92 : decode cX7_tell 92 = .ok (.iconst (-1), 1) := by decide +kernel
theorem dX7_tell_93 : decode cX7_tell 93 = .ok (.iastore, 1) := by decide +kernel
theorem dX7_tell_94 : decode cX7_tell 94 = .ok (.aload_n 0, 1) := by decide +kernel
theorem dX7_tell_95 : decode cX7_tell 95 = .ok (.getfield 31, 3) := by decide +kernel
theorem dX7_tell_98 : decode cX7_tell 98 = .ok (.iload_n 2, 1) := by decide +kernel
theorem dX7_tell_99 : decode cX7_tell 99 = .ok (.iconst 0, 1) := by decide +kernel
theorem dX7_tell_100 : decode cX7_tell 100 = .ok (.iastore, 1) := by decide +kernel
theorem dX7_tell_101 : decode cX7_tell 101 = .ok (.aload_n 0, 1) := by decide +kernel
theorem dX7_tell_102 : decode cX7_tell 102 = .ok (.getfield 34, 3) := by decide +kernel
theorem dX7_tell_105 : decode cX7_tell 105 = .ok (.iload_n 2, 1) := by decide +kernel
theorem dX7_tell_106 : decode cX7_tell 106 = .ok (.iconst 0, 1) := by decide +kernel
theorem dX7_tell_107 : decode cX7_tell 107 = .ok (.iastore, 1) := by decide +kernel
theorem dX7_tell_108 : decode cX7_tell 108 = .ok (.aload_n 0, 1) := by decide +kernel
theorem dX7_tell_109 : decode cX7_tell 109 = .ok (.getfield 43, 3) := by decide +kernel
theorem dX7_tell_112 : decode cX7_tell 112 = .ok (.aload_n 0, 1) := by decide +kernel
theorem dX7_tell_113 : decode cX7_tell 113 = .ok (.getfield 185, 3) := by decide +kernel
theorem dX7_tell_116 : decode cX7_tell 116 = .ok (.aload_n 0, 1) := by decide +kernel
theorem dX7_tell_117 : decode cX7_tell 117 = .ok (.getfield 134, 3) := by decide +kernel
theorem dX7_tell_120 : decode cX7_tell 120 = .ok (.iastore, 1) := by decide +kernel
theorem dX7_tell_121 : decode cX7_tell 121 = .ok (.aload_n 0, 1) := by decide +kernel
theorem dX7_tell_122 : decode cX7_tell 122 = .ok (.dup, 1) := by decide +kernel
theorem dX7_tell_123 : decode cX7_tell 123 = .ok (.getfield 185, 3) := by decide +kernel
theorem dX7_tell_126 : decode cX7_tell 126 = .ok (.iconst 1, 1) := by decide +kernel
theorem dX7_tell_127 : decode cX7_tell 127 = .ok (.iadd, 1) := by decide +kernel
theorem dX7_tell_128 : decode cX7_tell 128 = .ok (.putfield 185, 3) := by decide +kernel
theorem dX7_tell_131 : decode cX7_tell 131 = .ok (.aload_n 0, 1) := by decide +kernel
theorem dX7_tell_132 : decode cX7_tell 132 = .ok (.invokevirtual 179, 3) := by decide +kernel
theorem dX7_tell_135 : decode cX7_tell 135 = .ok (.iload_n 2, 1) := by decide +kernel
theorem dX7_tell_136 : decode cX7_tell 136 = .ok (.ireturn, 1) := by decide +kernel
set_option maxRecDepth 20000 in
theorem ggX7_ask_X7_wrong : GoodIn wsX7_ask wsX7_wrong := goodIn_r _ [12, 1, 6, 13, 14, 15, 11, 16, 17, 18, 58, 59, 60, 61, 62, 63, 64, 65, 66, 67, 68, 69, 70, 71, 72, 73, 74, 75, 76, 77, 78, 79, 80, 81, 82, 83, 84, 85, 86, 87, 88, 89, 90, 91, 92, 93, 94, 95, 96, 97, 98, 99, 100, 101, 102, 103, 104, 105, 106] (by decide +kernel) (by decide +kernel)
set_option maxRecDepth 20000 in
theorem gX7_ask_X7_wrong : GoodIn wsX7_ask (wsV RX7 182 RX7 yX7_wrong wsX7_wrong) := goodIn_app (goodIn_of _ (by decide +kernel)) ggX7_ask_X7_wrong
set_option maxRecDepth 20000 in
theorem ggX7_ask_X7_isGood : GoodIn wsX7_ask wsX7_isGood := goodIn_r _ [22, 17, 58, 59, 60, 61, 62, 63, 64, 65, 66, 67, 68, 69, 70, 71, 72, 73, 74, 75, 76, 77, 78, 79, 80, 81, 82, 83, 84, 85, 86, 87, 88, 89, 90, 91, 92, 93, 94, 95, 96, 97, 98, 99, 100, 101, 102, 103, 104, 105, 106] (by decide +kernel) (by decide +kernel)
set_option maxRecDepth 20000 in
theorem gX7_ask_X7_isGood : GoodIn wsX7_ask (wsV RX7 191 RX7 yX7_isGood wsX7_isGood) := goodIn_app (goodIn_of _ (by decide +kernel)) ggX7_ask_X7_isGood
set_option maxRecDepth 20000 in
theorem ggX7_ask_X7_next : GoodIn wsX7_ask wsX7_next := goodIn_r _ [26, 27, 6, 28, 1, 4, 29, 30, 31, 32, 33, 34, 35, 36, 37, 11, 38, 39, 40, 41, 42, 43, 44, 45, 46, 47, 48, 49, 50, 51, 52, 53, 54, 55, 56, 57, 58, 59, 60, 61, 62, 63, 64, 65, 66, 67, 68, 69, 70, 71, 72, 73, 74, 75, 76, 77, 78, 79, 80, 81, 82, 83, 84, 85, 86, 87, 88, 89, 90, 91, 92, 93, 94, 95, 96, 97, 98, 99, 100, 101, 102, 103, 104, 105, 106] (by decide +kernel) (by decide +kernel)
set_option maxRecDepth 20000 in
theorem gX7_ask_X7_next : GoodIn wsX7_ask (wsV RX7 179 RX7 yX7_next wsX7_next) := goodIn_app (goodIn_of _ (by decide +kernel)) ggX7_ask_X7_next
theorem dX7_ask_0 : decode cX7_ask 0 = .ok (.aload_n 0, 1) := by decide +kernel
theorem dX7_ask_1 : decode cX7_ask 1 = .ok (.getfield 141, 3) := by decide +kernel
theorem dX7_ask_4 : decode cX7_ask 4 = .ok (.iconst 2, 1) := by decide +kernel
theorem dX7_ask_5 : decode cX7_ask 5 = .ok (.if_icmp .eq 7, 3) := by decide +kernel
theorem dX7_ask_8 : decode cX7_ask 8 = .ok (.aload_n 0, 1) := by decide +kernel
theorem dX7_ask_9 : decode cX7_ask 9 = .ok (.invokevirtual 182, 3) := by decide +kernel
theorem dX7_ask_12 : decode cX7_ask 12 = .ok (.aload_n 0, 1) := by decide +kernel
theorem dX7_ask_13 : decode cX7_ask 13 = .ok (.invokevirtual 191, 3) := by decide +kernel
theorem dX7_ask_16 : decode cX7_ask 16 = .ok (.ifCond .ne 4, 3) := by decide +kernel
theorem dX7_ask_19 : decode cX7_ask 19 = .ok (.return_, 1) := by decide +kernel
theorem dX7_ask_20 : decode cX7_ask 20 = .ok (.aload_n 0, 1) := by decide +kernel
theorem dX7_ask_21 : decode cX7_ask 21 = .ok (.getfield 50, 3) := by decide +kernel
theorem dX7_ask_24 : decode cX7_ask 24 = .ok (.aload_n 0, 1) := by decide +kernel
theorem dX7_ask_25 : decode cX7_ask 25 = .ok (.getfield 198, 3) := by decide +kernel
theorem dX7_ask_28 : decode cX7_ask 28 = .ok (.aload_n 0, 1) := by decide +kernel
theorem dX7_ask_29 : decode cX7_ask 29 = .ok (.getfield 151, 3) := by decide +kernel
theorem dX7_ask_32 : decode cX7_ask 32 = .ok (.lastore, 1) := by decide +kernel
theorem dX7_ask_33 : decode cX7_ask 33 = .ok (.aload_n 0, 1) := by decide +kernel
theorem dX7_ask_34 : decode cX7_ask 34 = .ok (.getfield 53, 3) := by decide +kernel
theorem dX7_ask_37 : decode cX7_ask 37 = .ok (.aload_n 0, 1) := by decide +kernel
theorem dX7_ask_38 : decode cX7_ask 38 = .ok (.getfield 198, 3) := by decide +kernel
theorem dX7_ask_41 : decode cX7_ask 41 = .ok (.aload_n 0, 1) := by decide +kernel
theorem dX7_ask_42 : decode cX7_ask 42 = .ok (.getfield 134, 3) := by decide +kernel
theorem dX7_ask_45 : decode cX7_ask 45 = .ok (.iastore, 1) := by decide +kernel
theorem dX7_ask_46 : decode cX7_ask 46 = .ok (.aload_n 0, 1) := by decide +kernel
theorem dX7_ask_47 : decode cX7_ask 47 = .ok (.getfield 56, 3) := by decide +kernel
theorem dX7_ask_50 : decode cX7_ask 50 = .ok (.aload_n 0, 1) := by decide +kernel
theorem dX7_ask_51 : decode cX7_ask 51 = .ok (.getfield 198, 3) := by decide +kernel
theorem dX7_ask_54 : decode cX7_ask 54 = .ok (.iload_n 1, 1) := by decide +kernel
theorem dX7_ask_55 : decode cX7_ask 55 = .ok (.iastore, 1) := by decide +kernel
theorem dX7_ask_56 : decode cX7_ask 56 = .ok (.aload_n 0, 1) := by decide +kernel
theorem dX7_ask_57 : decode cX7_ask 57 = .ok (.dup, 1) := by decide +kernel
theorem dX7_ask_58 : decode cX7_ask 58 = .ok (.getfield 198, 3) := by decide +kernel
theorem dX7_ask_61 : decode cX7_ask 61 = .ok (.iconst 1, 1) := by decide +kernel
theorem dX7_ask_62 : decode cX7_ask 62 = .ok (.iadd, 1) := by decide +kernel
theorem dX7_ask_63 : decode cX7_ask 63 = .ok (.putfield 198, 3) := by decide +kernel
theorem dX7_ask_66 : decode cX7_ask 66 = .ok (.aload_n 0, 1) := by decide +kernel
theorem dX7_ask_67 : decode cX7_ask 67 = .ok (.invokevirtual 179, 3) := by decide +kernel
theorem dX7_ask_70 : decode cX7_ask 70 = .ok (.return_, 1) := by decide +kernel
set_option maxRecDepth 20000 in
theorem ggX7_tellAll_X7_isGood : GoodIn wsX7_tellAll wsX7_isGood := goodIn_r _ [5, 6, 78, 79, 80, 81, 82, 83, 84, 85, 86, 87, 88, 89, 90, 91, 92, 93, 94, 95, 96, 97, 98, 99, 100, 101, 102, 103, 104, 105, 106, 107, 108, 109, 110, 111, 112, 113, 114, 115, 116, 117, 118, 119, 120, 121, 122, 123, 124, 125, 126] (by decide +kernel) (by decide +kernel)
set_option maxRecDepth 20000 in
theorem gX7_tellAll_X7_isGood : GoodIn wsX7_tellAll (wsV RX7 191 RX7 yX7_isGood wsX7_isGood) := goodIn_app (goodIn_of _ (by decide +kernel)) ggX7_tellAll_X7_isGood
set_option maxRecDepth 20000 in
theorem ggX7_tellAll_X7_next : GoodIn wsX7_tellAll wsX7_next := goodIn_r _ [10, 11, 12, 13, 14, 15, 16, 17, 18, 19, 20, 21, 22, 23, 24, 4, 25, 26, 27, 28, 29, 30, 31, 32, 33, 34, 35, 36, 37, 38, 39, 40, 41, 42, 43, 44, 78, 79, 80, 81, 82, 83, 84, 85, 86, 87, 88, 89, 90, 91, 92, 93, 94, 95, 96, 97, 98, 99, 100, 101, 102, 103, 104, 105, 106, 107, 108, 109, 110, 111, 112, 113, 114, 115, 116, 117, 118, 119, 120, 121, 122, 123, 124, 125, 126] (by decide +kernel) (by decide +kernel)
set_option maxRecDepth 20000 in
theorem gX7_tellAll_X7_next : GoodIn wsX7_tellAll (wsV RX7 179 RX7 yX7_next wsX7_next) := goodIn_app (goodIn_of _ (by decide +kernel)) ggX7_tellAll_X7_next
set_option maxRecDepth 20000 in
theorem ggX7_tellAll_X7_tell : GoodIn wsX7_tellAll wsX7_tell := goodIn_r _ [48, 14, 49, 15, 12, 50, 51, 52, 53, 54, 55, 56, 57, 58, 59, 4, 60, 61, 62, 63, 64, 6, 65, 1, 2, 3, 5, 66, 67, 68, 69, 7, 8, 9, 10, 11, 13, 16, 17, 18, 19, 20, 21, 22, 23, 24, 25, 26, 27, 28, 29, 30, 31, 32, 33, 34, 35, 36, 37, 38, 39, 40, 41, 42, 43, 44, 78, 79, 80, 81, 82, 83, 84, 85, 86, 87, 88, 89, 90, 91, 92, 93, 94, 95, 96, 97, 98, 99, 100, 101, 102, 103, 104, 105, 106, 107, 108, 109, 110, 111, 112, 113, 114, 115, 116, 117, 118, 119, 120, 121, 122, 123, 124, 125, 126] (by decide +kernel) (by decide +kernel)
set_option maxRecDepth 20000 in
theorem gX7_tellAll_X7_tell : GoodIn wsX7_tellAll (wsV RX7 201 RX7 yX7_tell wsX7_tell) := goodIn_app (goodIn_of _ (by decide +kernel)) ggX7_tellAll_X7_tell
set_option maxRecDepth 20000 in
theorem ggX7_tellAll_X7_is : GoodIn wsX7_tellAll wsX7_is := goodIn_r _ [73, 14, 12, 22, 23, 24, 4, 25, 13, 26, 78, 79, 80, 81, 82, 83, 84, 85, 86, 87, 88, 89, 90, 91, 92, 93, 94, 95, 96, 97, 98, 99, 100, 101, 102, 103, 104, 105, 106, 107, 108, 109, 110, 111, 112, 113, 114, 115, 116, 117, 118, 119, 120, 121, 122, 123, 124, 125, 126] (by decide +kernel) (by decide +kernel)
set_option maxRecDepth 20000 in
theorem gX7_tellAll_X7_is : GoodIn wsX7_tellAll (wsV RX7 176 RX7 yX7_is wsX7_is) := goodIn_app (goodIn_of _ (by decide +kernel)) ggX7_tellAll_X7_is
set_option maxRecDepth 20000 in
theorem ggX7_tellAll_X7_must : GoodIn wsX7_tellAll wsX7_must := goodIn_r _ [77, 70, 71, 72, 4, 73, 14, 12, 22, 23, 24, 25, 13, 26, 7, 8, 9, 10, 11, 15, 16, 17, 18, 19, 20, 21, 27, 28, 29, 30, 31, 32, 33, 34, 35, 36, 37, 38, 39, 40, 41, 42, 43, 44, 57, 58, 59, 60, 61, 62, 63, 64, 6, 65, 78, 79, 80, 81, 82, 83, 84, 85, 86, 87, 88, 89, 90, 91, 92, 93, 94, 95, 96, 97, 98, 99, 100, 101, 102, 103, 104, 105, 106, 107, 108, 109, 110, 111, 112, 113, 114, 115, 116, 117, 118, 119, 120, 121, 122, 123, 124, 125, 126] (by decide +kernel) (by decide +kernel)
set_option maxRecDepth 20000 in
theorem gX7_tellAll_X7_must : GoodIn wsX7_tellAll (wsV RX7 204 RX7 yX7_must wsX7_must) := goodIn_app (goodIn_of _ (by decide +kernel)) ggX7_tellAll_X7_must
theorem dX7_tellAll_0 : decode cX7_tellAll 0 = .ok (.iconst 1, 1) := by decide +kernel
theorem dX7_tellAll_1 : decode cX7_tellAll 1 = .ok (.istore_n 2, 1) := by decide +kernel
theorem dX7_tellAll_2 : decode cX7_tellAll 2 = .ok (.iload_n 2, 1) := by decide +kernel
theorem dX7_tellAll_3 : decode cX7_tellAll 3 = .ok (.ifCond .eq 45, 3) := by decide +kernel
theorem dX7_tellAll_6 : decode cX7_tellAll 6 = .ok (.aload_n 0, 1) := by decide +kernel
theorem dX7_tellAll_7 : decode cX7_tellAll 7 = .ok (.invokevirtual 191, 3) := by decide +kernel
theorem dX7_tellAll_10 : decode cX7_tellAll 10 = .ok (.ifCond .eq 38, 3) := by decide +kernel
theorem dX7_tellAll_13 : decode cX7_tellAll 13 = .ok (.aload_n 0, 1) := by decide +kernel
theorem dX7_tellAll_14 : decode cX7_tellAll 14 = .ok (.invokevirtual 179, 3) := by decide +kernel
theorem dX7_tellAll_17 : decode cX7_tellAll 17 = .ok (.aload_n 0, 1) := by decide +kernel
theorem dX7_tellAll_18 : decode cX7_tellAll 18 = .ok (.iload_n 1, 1) := by decide +kernel
theorem dX7_tellAll_19 : decode cX7_tellAll 19 = .ok (.invokevirtual 201, 3) := by decide +kernel
theorem dX7_tellAll_22 : decode cX7_tellAll 22 = .ok (.istore_n 3, 1) := by decide +kernel
theorem dX7_tellAll_23 : decode cX7_tellAll 23 = .ok (.aload_n 0, 1) := by decide +kernel
theorem dX7_tellAll_24 : decode cX7_tellAll 24 = .ok (.invokevirtual 191, 3) := by decide +kernel
theorem dX7_tellAll_27 : decode cX7_tellAll 27 = .ok (.ifCond .eq 16, 3) := by decide +kernel
theorem dX7_tellAll_30 : decode cX7_tellAll 30 = .ok (.aload_n 0, 1) := by decide +kernel
theorem dX7_tellAll_31 : decode cX7_tellAll 31 = .ok (.bipush 44, 2) := by decide +kernel
theorem dX7_tellAll_33 : decode cX7_tellAll 33 = .ok (.invokevirtual 176, 3) := by decide +kernel
theorem dX7_tellAll_36 : decode cX7_tellAll 36 = .ok (.ifCond .eq 7, 3) := by decide +kernel
theorem dX7_tellAll_39 : decode cX7_tellAll 39 = .ok (.iconst 1, 1) := by decide +kernel
theorem dX7_tellAll_40 : decode cX7_tellAll 40 = .ok (.goto 4, 3) := by decide +kernel
theorem dX7_tellAll_43 : decode cX7_tellAll 43 = .ok (.iconst 0, 1) := by decide +kernel
theorem dX7_tellAll_44 : decode cX7_tellAll 44 = .ok (.istore_n 2, 1) := by decide +kernel
theorem dX7_tellAll_45 : decode cX7_tellAll 45 = .ok (.goto (-43), 3) := by decide +kernel
theorem dX7_tellAll_48 : decode cX7_tellAll 48 = .ok (.aload_n 0, 1) := by decide +kernel
theorem dX7_tellAll_49 : decode cX7_tellAll 49 = .ok (.invokevirtual 191, 3) := by decide +kernel
theorem dX7_tellAll_52 : decode cX7_tellAll 52 = .ok (.ifCond .eq 9, 3) := by decide +kernel
theorem dX7_tellAll_55 : decode cX7_tellAll 55 = .ok (.aload_n 0, 1) := by decide +kernel
theorem dX7_tellAll_56 : decode cX7_tellAll 56 = .ok (.bipush 59, 2) := by decide +kernel
theorem dX7_tellAll_58 : decode cX7_tellAll 58 = .ok (.invokevirtual 204, 3) := by decide +kernel
theorem dX7_tellAll_61 : decode cX7_tellAll 61 = .ok (.return_, 1) := by decide +kernel
set_option maxRecDepth 20000 in
theorem ggX7_readRegister_X7_next : GoodIn wsX7_readRegister wsX7_next := goodIn_r _ [6, 7, 8, 9, 10, 11, 12, 13, 14, 15, 16, 17, 18, 19, 20, 5, 21, 22, 23, 24, 25, 26, 27, 28, 29, 30, 31, 32, 33, 34, 35, 36, 37, 38, 39, 40, 86, 87, 88, 89, 90, 91, 92, 93, 94, 95, 96, 97, 98, 99, 100, 101, 102, 103, 104, 105, 106, 107, 108, 109, 110, 111, 112, 113, 114, 115, 116, 117, 118, 119, 120, 121, 122, 123, 124, 125, 126, 127, 128, 129, 130, 131, 132, 133, 134] (by decide +kernel) (by decide +kernel)
set_option maxRecDepth 20000 in
theorem gX7_readRegister_X7_next : GoodIn wsX7_readRegister (wsV RX7 179 RX7 yX7_next wsX7_next) := goodIn_app (goodIn_of _ (by decide +kernel)) ggX7_readRegister_X7_next
set_option maxRecDepth 20000 in
theorem ggX7_readRegister_X7_tell : GoodIn wsX7_readRegister wsX7_tell := goodIn_r _ [44, 10, 45, 11, 8, 46, 47, 48, 49, 1, 50, 51, 52, 53, 54, 5, 55, 56, 57, 58, 59, 60, 61, 62, 63, 64, 65, 66, 67, 68, 69, 2, 3, 4, 6, 7, 9, 12, 13, 14, 15, 16, 17, 18, 19, 20, 21, 22, 23, 24, 25, 26, 27, 28, 29, 30, 31, 32, 33, 34, 35, 36, 37, 38, 39, 40, 86, 87, 88, 89, 90, 91, 92, 93, 94, 95, 96, 97, 98, 99, 100, 101, 102, 103, 104, 105, 106, 107, 108, 109, 110, 111, 112, 113, 114, 115, 116, 117, 118, 119, 120, 121, 122, 123, 124, 125, 126, 127, 128, 129, 130, 131, 132, 133, 134] (by decide +kernel) (by decide +kernel)
set_option maxRecDepth 20000 in
theorem gX7_readRegister_X7_tell : GoodIn wsX7_readRegister (wsV RX7 201 RX7 yX7_tell wsX7_tell) := goodIn_app (goodIn_of _ (by decide +kernel)) ggX7_readRegister_X7_tell
set_option maxRecDepth 20000 in
theorem ggX7_readRegister_X7_isGood : GoodIn wsX7_readRegister wsX7_isGood := goodIn_r _ [65, 60, 86, 87, 88, 89, 90, 91, 92, 93, 94, 95, 96, 97, 98, 99, 100, 101, 102, 103, 104, 105, 106, 107, 108, 109, 110, 111, 112, 113, 114, 115, 116, 117, 118, 119, 120, 121, 122, 123, 124, 125, 126, 127, 128, 129, 130, 131, 132, 133, 134] (by decide +kernel) (by decide +kernel)
set_option maxRecDepth 20000 in
theorem gX7_readRegister_X7_isGood : GoodIn wsX7_readRegister (wsV RX7 191 RX7 yX7_isGood wsX7_isGood) := goodIn_app (goodIn_of _ (by decide +kernel)) ggX7_readRegister_X7_isGood
set_option maxRecDepth 20000 in
theorem ggX7_readRegister_X7_must : GoodIn wsX7_readRegister wsX7_must := goodIn_r _ [73, 74, 75, 76, 5, 77, 10, 8, 18, 19, 20, 21, 9, 22, 2, 3, 4, 6, 7, 11, 12, 13, 14, 15, 16, 17, 23, 24, 25, 26, 27, 28, 29, 30, 31, 32, 33, 34, 35, 36, 37, 38, 39, 40, 52, 53, 54, 55, 56, 57, 58, 59, 60, 61, 86, 87, 88, 89, 90, 91, 92, 93, 94, 95, 96, 97, 98, 99, 100, 101, 102, 103, 104, 105, 106, 107, 108, 109, 110, 111, 112, 113, 114, 115, 116, 117, 118, 119, 120, 121, 122, 123, 124, 125, 126, 127, 128, 129, 130, 131, 132, 133, 134] (by decide +kernel) (by decide +kernel)
set_option maxRecDepth 20000 in
theorem gX7_readRegister_X7_must : GoodIn wsX7_readRegister (wsV RX7 204 RX7 yX7_must wsX7_must) := goodIn_app (goodIn_of _ (by decide +kernel)) ggX7_readRegister_X7_must
set_option maxRecDepth 20000 in
theorem ggX7_readRegister_X7_ask : GoodIn wsX7_readRegister wsX7_ask := goodIn_r _ [81, 10, 82, 83, 11, 84, 8, 85, 52, 53, 54, 5, 55, 56, 57, 58, 59, 60, 61, 62, 63, 64, 65, 2, 3, 4, 6, 7, 9, 12, 13, 14, 15, 16, 17, 18, 19, 20, 21, 22, 23, 24, 25, 26, 27, 28, 29, 30, 31, 32, 33, 34, 35, 36, 37, 38, 39, 40, 86, 87, 88, 89, 90, 91, 92, 93, 94, 95, 96, 97, 98, 99, 100, 101, 102, 103, 104, 105, 106, 107, 108, 109, 110, 111, 112, 113, 114, 115, 116, 117, 118, 119, 120, 121, 122, 123, 124, 125, 126, 127, 128, 129, 130, 131, 132, 133, 134] (by decide +kernel) (by decide +kernel)
set_option maxRecDepth 20000 in
theorem gX7_readRegister_X7_ask : GoodIn wsX7_readRegister (wsV RX7 208 RX7 yX7_ask wsX7_ask) := goodIn_app (goodIn_of _ (by decide +kernel)) ggX7_readRegister_X7_ask
set_option maxRecDepth 20000 in
theorem ggX7_readRegister_X7_is : GoodIn wsX7_readRegister wsX7_is := goodIn_r _ [77, 10, 8, 18, 19, 20, 5, 21, 9, 22, 86, 87, 88, 89, 90, 91, 92, 93, 94, 95, 96, 97, 98, 99, 100, 101, 102, 103, 104, 105, 106, 107, 108, 109, 110, 111, 112, 113, 114, 115, 116, 117, 118, 119, 120, 121, 122, 123, 124, 125, 126, 127, 128, 129, 130, 131, 132, 133, 134] (by decide +kernel) (by decide +kernel)
set_option maxRecDepth 20000 in
theorem gX7_readRegister_X7_is : GoodIn wsX7_readRegister (wsV RX7 176 RX7 yX7_is wsX7_is) := goodIn_app (goodIn_of _ (by decide +kernel)) ggX7_readRegister_X7_is
theorem dX7_readRegister_0 : decode cX7_readRegister 0 = .ok (.aload_n 0, 1) := by decide +kernel
theorem dX7_readRegister_1 : decode cX7_readRegister 1 = .ok (.invokevirtual 179, 3) := by decide +kernel
theorem dX7_readRegister_4 : decode cX7_readRegister 4 = .ok (.aload_n 0, 1) := by decide +kernel
theorem dX7_readRegister_5 : decode cX7_readRegister 5 = .ok (.iconst 3, 1) := by decide +kernel
theorem dX7_readRegister_6 : decode cX7_readRegister 6 = .ok (.invokevirtual 201, 3) := by decide +kernel
theorem dX7_readRegister_9 : decode cX7_readRegister 9 = .ok (.istore_n 1, 1) := by decide +kernel
theorem dX7_readRegister_10 : decode cX7_readRegister 10 = .ok (.aload_n 0, 1) := by decide +kernel
theorem dX7_readRegister_11 : decode cX7_readRegister 11 = .ok (.invokevirtual 191, 3) := by decide +kernel
theorem dX7_readRegister_14 : decode cX7_readRegister 14 = .ok (.ifCond .eq 9, 3) := by decide +kernel
theorem dX7_readRegister_17 : decode cX7_readRegister 17 = .ok (.aload_n 0, 1) := by decide +kernel
theorem dX7_readRegister_18 : decode cX7_readRegister 18 = .ok (.bipush 40, 2) := by decide +kernel
theorem dX7_readRegister_20 : decode cX7_readRegister 20 = .ok (.invokevirtual 204, 3) := by decide +kernel
theorem dX7_readRegister_23 : decode cX7_readRegister 23 = .ok (.aload_n 0, 1) := by decide +kernel
theorem dX7_readRegister_24 : decode cX7_readRegister 24 = .ok (.invokevirtual 191, 3) := by decide +kernel
theorem dX7_readRegister_27 : decode cX7_readRegister 27 = .ok (.ifCond .ne 4, 3) := by decide +kernel
theorem dX7_readRegister_30 : decode cX7_readRegister 30 = .ok (.return_, 1) := by decide +kernel
theorem dX7_readRegister_31 : decode cX7_readRegister 31 = .ok (.aload_n 0, 1) := by decide +kernel
theorem dX7_readRegister_32 : decode cX7_readRegister 32 = .ok (.bipush 12, 2) := by decide +kernel
theorem dX7_readRegister_34 : decode cX7_readRegister 34 = .ok (.iload_n 1, 1) := by decide +kernel
theorem dX7_readRegister_35 : decode cX7_readRegister 35 = .ok (.imul, 1) := by decide +kernel
theorem dX7_readRegister_36 : decode cX7_readRegister 36 = .ok (.invokevirtual 208, 3) := by decide +kernel
theorem dX7_readRegister_39 : decode cX7_readRegister 39 = .ok (.aload_n 0, 1) := by decide +kernel
theorem dX7_readRegister_40 : decode cX7_readRegister 40 = .ok (.getfield 31, 3) := by decide +kernel
theorem dX7_readRegister_43 : decode cX7_readRegister 43 = .ok (.iload_n 1, 1) := by decide +kernel
theorem dX7_readRegister_44 : decode cX7_readRegister 44 = .ok (.iconst 1, 1) := by decide +kernel
theorem dX7_readRegister_45 : decode cX7_readRegister 45 = .ok (.iastore, 1) := by decide +kernel
theorem dX7_readRegister_46 : decode cX7_readRegister 46 = .ok (.aload_n 0, 1) := by decide +kernel
theorem dX7_readRegister_47 : decode cX7_readRegister 47 = .ok (.invokevirtual 191, 3) := by decide +kernel
theorem dX7_readRegister_50 : decode cX7_readRegister 50 = .ok (.ifCond .eq 33, 3) := by decide +kernel
theorem dX7_readRegister_53 : decode cX7_readRegister 53 = .ok (.aload_n 0, 1) := by decide +kernel
theorem dX7_readRegister_54 : decode cX7_readRegister 54 = .ok (.bipush 44, 2) := by decide +kernel
theorem dX7_readRegister_56 : decode cX7_readRegister 56 = .ok (.invokevirtual 176, 3) := by decide +kernel
theorem dX7_readRegister_59 : decode cX7_readRegister 59 = .ok (.ifCond .eq 24, 3) := by decide +kernel
theorem dX7_readRegister_62 : decode cX7_readRegister 62 = .ok (.aload_n 0, 1) := by decide +kernel
theorem dX7_readRegister_63 : decode cX7_readRegister 63 = .ok (.invokevirtual 179, 3) := by decide +kernel
theorem dX7_readRegister_66 : decode cX7_readRegister 66 = .ok (.aload_n 0, 1) := by decide +kernel
theorem dX7_readRegister_67 : decode cX7_readRegister 67 = .ok (.bipush 12, 2) := by decide +kernel
theorem dX7_readRegister_69 : decode cX7_readRegister 69 = .ok (.iload_n 1, 1) := by decide +kernel
theorem dX7_readRegister_70 : decode cX7_readRegister 70 = .ok (.imul, 1) := by decide +kernel
theorem dX7_readRegister_71 : decode cX7_readRegister 71 = .ok (.iconst 1, 1) := by decide +kernel
theorem dX7_readRegister_72 : decode cX7_readRegister 72 = .ok (.iadd, 1) := by decide +kernel
theorem dX7_readRegister_73 : decode cX7_readRegister 73 = .ok (.invokevirtual 208, 3) := by decide +kernel
theorem dX7_readRegister_76 : decode cX7_readRegister 76 = .ok (.aload_n 0, 1) := by decide +kernel
theorem dX7_readRegister_77 : decode cX7_readRegister 77 = .ok (.getfield 31, 3) := by decide +kernel
theorem dX7_readRegister_80 : decode cX7_readRegister 80 = .ok (.iload_n 1, 1) := by decide +kernel
theorem dX7_readRegister_81 : decode cX7_readRegister 81 = .ok (.iconst 2, 1) := by decide +kernel
theorem dX7_readRegister_82 : decode cX7_readRegister 82 = .ok (.iastore, 1) := by decide +kernel
theorem dX7_readRegister_83 : decode cX7_readRegister 83 = .ok (.aload_n 0, 1) := by decide +kernel
theorem dX7_readRegister_84 : decode cX7_readRegister 84 = .ok (.invokevirtual 191, 3) := by decide +kernel
theorem dX7_readRegister_87 : decode cX7_readRegister 87 = .ok (.ifCond .eq 9, 3) := by decide +kernel
theorem dX7_readRegister_90 : decode cX7_readRegister 90 = .ok (.aload_n 0, 1) := by decide +kernel
theorem dX7_readRegister_91 : decode cX7_readRegister 91 = .ok (.bipush 41, 2) := by decide +kernel
theorem dX7_readRegister_93 : decode cX7_readRegister 93 = .ok (.invokevirtual 204, 3) := by decide +kernel
theorem dX7_readRegister_96 : decode cX7_readRegister 96 = .ok (.aload_n 0, 1) := by decide +kernel
theorem dX7_readRegister_97 : decode cX7_readRegister 97 = .ok (.invokevirtual 191, 3) := by decide +kernel
theorem dX7_readRegister_100 : decode cX7_readRegister 100 = .ok (.ifCond .eq 9, 3) := by decide +kernel
theorem dX7_readRegister_103 : decode cX7_readRegister 103 = .ok (.aload_n 0, 1) := by decide +kernel
theorem dX7_readRegister_104 : decode cX7_readRegister 104 = .ok (.bipush 59, 2) := by decide +kernel
theorem dX7_readRegister_106 : decode cX7_readRegister 106 = .ok (.invokevirtual 204, 3) := by decide +kernel
theorem dX7_readRegister_109 : decode cX7_readRegister 109 = .ok (.return_, 1) := by decide +kernel
theorem dX7_mostOf_0 : decode cX7_mostOf 0 = .ok (.iload_n 0, 1) := by decide +kernel
theorem dX7_mostOf_1 : decode cX7_mostOf 1 = .ok (.bipush 6, 2) := by decide +kernel
theorem dX7_mostOf_3 : decode cX7_mostOf 3 = .ok (.if_icmp .eq 9, 3) := by decide +kernel
theorem dX7_mostOf_6 : decode cX7_mostOf 6 = .ok (.iload_n 0, 1) := by decide +kernel
theorem dX7_mostOf_7 : decode cX7_mostOf 7 = .ok (.bipush 7, 2) := by decide +kernel
theorem dX7_mostOf_9 : decode cX7_mostOf 9 = .ok (.if_icmp .ne 7, 3) := by decide +kernel
theorem dX7_mostOf_12 : decode cX7_mostOf 12 = .ok (.iconst 1, 1) := by decide +kernel
theorem dX7_mostOf_13 : decode cX7_mostOf 13 = .ok (.goto 15, 3) := by decide +kernel
theorem dX7_mostOf_16 : decode cX7_mostOf 16 = .ok (.iload_n 0, 1) := by decide +kernel
theorem dX7_mostOf_17 : decode cX7_mostOf 17 = .ok (.bipush 8, 2) := by decide +kernel
theorem dX7_mostOf_19 : decode cX7_mostOf 19 = .ok (.if_icmp .ne 7, 3) := by decide +kernel
theorem dX7_mostOf_22 : decode cX7_mostOf 22 = .ok (.iconst 3, 1) := by decide +kernel
theorem dX7_mostOf_23 : decode cX7_mostOf 23 = .ok (.goto 5, 3) := by decide +kernel
theorem dX7_mostOf_26 : decode cX7_mostOf 26 = .ok (.bipush 6, 2) := by decide +kernel
theorem dX7_mostOf_28 : decode cX7_mostOf 28 = .ok (.ireturn, 1) := by decide +kernel
theorem dX7_leastOf_0 : decode cX7_leastOf 0 = .ok (.iload_n 0, 1) := by decide +kernel
theorem dX7_leastOf_1 : decode cX7_leastOf 1 = .ok (.bipush 6, 2) := by decide +kernel
theorem dX7_leastOf_3 : decode cX7_leastOf 3 = .ok (.if_icmp .eq 9, 3) := by decide +kernel
theorem dX7_leastOf_6 : decode cX7_leastOf 6 = .ok (.iload_n 0, 1) := by decide +kernel
theorem dX7_leastOf_7 : decode cX7_leastOf 7 = .ok (.bipush 7, 2) := by decide +kernel
theorem dX7_leastOf_9 : decode cX7_leastOf 9 = .ok (.if_icmp .ne 7, 3) := by decide +kernel
theorem dX7_leastOf_12 : decode cX7_leastOf 12 = .ok (.iconst 1, 1) := by decide +kernel
theorem dX7_leastOf_13 : decode cX7_leastOf 13 = .ok (.goto 14, 3) := by decide +kernel
theorem dX7_leastOf_16 : decode cX7_leastOf 16 = .ok (.iload_n 0, 1) := by decide +kernel
theorem dX7_leastOf_17 : decode cX7_leastOf 17 = .ok (.bipush 8, 2) := by decide +kernel
theorem dX7_leastOf_19 : decode cX7_leastOf 19 = .ok (.if_icmp .ne 7, 3) := by decide +kernel
theorem dX7_leastOf_22 : decode cX7_leastOf 22 = .ok (.iconst 3, 1) := by decide +kernel
theorem dX7_leastOf_23 : decode cX7_leastOf 23 = .ok (.goto 4, 3) := by decide +kernel
theorem dX7_leastOf_26 : decode cX7_leastOf 26 = .ok (.iconst 2, 1) := by decide +kernel
theorem dX7_leastOf_27 : decode cX7_leastOf 27 = .ok (.ireturn, 1) := by decide +kernel
set_option maxRecDepth 20000 in
theorem ggX7_readGate_X7_fails : GoodIn wsX7_readGate wsX7_fails := goodIn_r _ [16, 17, 18, 88, 89, 90, 91, 92, 93, 94, 95, 96, 97, 98, 99, 100, 101, 102, 103, 104, 105, 106, 107, 108, 109, 110, 111, 112, 113, 114, 115, 116, 117, 118, 119, 120, 121, 122, 123, 124, 125, 126, 127, 128, 129, 130, 131, 132, 133, 134, 135, 136] (by decide +kernel) (by decide +kernel)
set_option maxRecDepth 20000 in
theorem gX7_readGate_X7_fails : GoodIn wsX7_readGate (wsV RX7 172 RX7 yX7_fails wsX7_fails) := goodIn_app (goodIn_of _ (by decide +kernel)) ggX7_readGate_X7_fails
set_option maxRecDepth 20000 in
theorem ggX7_readGate_X7_newOf : GoodIn wsX7_readGate wsX7_newOf := goodIn_r _ [22, 1, 3, 2, 88, 89, 90, 91, 92, 93, 94, 95, 96, 97, 98, 99, 100, 101, 102, 103, 104, 105, 106, 107, 108, 109, 110, 111, 112, 113, 114, 115, 116, 117, 118, 119, 120, 121, 122, 123, 124, 125, 126, 127, 128, 129, 130, 131, 132, 133, 134, 135, 136] (by decide +kernel) (by decide +kernel)
set_option maxRecDepth 20000 in
theorem gX7_readGate_X7_newOf : GoodIn wsX7_readGate (wsV RX7 195 RX7 yX7_newOf wsX7_newOf) := goodIn_app (goodIn_of _ (by decide +kernel)) ggX7_readGate_X7_newOf
set_option maxRecDepth 20000 in
theorem ggX7_readGate_X7_isGood : GoodIn wsX7_readGate wsX7_isGood := goodIn_r _ [26, 17, 88, 89, 90, 91, 92, 93, 94, 95, 96, 97, 98, 99, 100, 101, 102, 103, 104, 105, 106, 107, 108, 109, 110, 111, 112, 113, 114, 115, 116, 117, 118, 119, 120, 121, 122, 123, 124, 125, 126, 127, 128, 129, 130, 131, 132, 133, 134, 135, 136] (by decide +kernel) (by decide +kernel)
set_option maxRecDepth 20000 in
theorem gX7_readGate_X7_isGood : GoodIn wsX7_readGate (wsV RX7 191 RX7 yX7_isGood wsX7_isGood) := goodIn_app (goodIn_of _ (by decide +kernel)) ggX7_readGate_X7_isGood
set_option maxRecDepth 20000 in
theorem ggX7_readGate_X7_next : GoodIn wsX7_readGate wsX7_next := goodIn_r _ [30, 31, 32, 33, 8, 9, 34, 35, 36, 37, 38, 11, 39, 40, 41, 15, 42, 43, 44, 45, 46, 47, 48, 49, 50, 51, 52, 53, 54, 55, 56, 57, 58, 59, 60, 61, 88, 89, 90, 91, 92, 93, 94, 95, 96, 97, 98, 99, 100, 101, 102, 103, 104, 105, 106, 107, 108, 109, 110, 111, 112, 113, 114, 115, 116, 117, 118, 119, 120, 121, 122, 123, 124, 125, 126, 127, 128, 129, 130, 131, 132, 133, 134, 135, 136] (by decide +kernel) (by decide +kernel)
set_option maxRecDepth 20000 in
theorem gX7_readGate_X7_next : GoodIn wsX7_readGate (wsV RX7 179 RX7 yX7_next wsX7_next) := goodIn_app (goodIn_of _ (by decide +kernel)) ggX7_readGate_X7_next
set_option maxRecDepth 20000 in
theorem ggX7_readGate_X7_gateOf : GoodIn wsX7_readGate wsX7_gateOf := goodIn_r _ [52, 53, 54, 55, 56, 57, 58, 59, 60, 61] (by decide +kernel) (by decide +kernel)
set_option maxRecDepth 20000 in
theorem gX7_readGate_X7_gateOf : GoodIn wsX7_readGate (va_wsS RX7 155 yX7_gateOf wsX7_gateOf) := goodIn_app (goodIn_of _ (by decide +kernel)) ggX7_readGate_X7_gateOf
set_option maxRecDepth 20000 in
theorem ggX7_readGate_X7_wrong : GoodIn wsX7_readGate wsX7_wrong := goodIn_r _ [65, 8, 32, 12, 13, 14, 15, 16, 17, 18, 88, 89, 90, 91, 92, 93, 94, 95, 96, 97, 98, 99, 100, 101, 102, 103, 104, 105, 106, 107, 108, 109, 110, 111, 112, 113, 114, 115, 116, 117, 118, 119, 120, 121, 122, 123, 124, 125, 126, 127, 128, 129, 130, 131, 132, 133, 134, 135, 136] (by decide +kernel) (by decide +kernel)
set_option maxRecDepth 20000 in
theorem gX7_readGate_X7_wrong : GoodIn wsX7_readGate (wsV RX7 182 RX7 yX7_wrong wsX7_wrong) := goodIn_app (goodIn_of _ (by decide +kernel)) ggX7_readGate_X7_wrong
set_option maxRecDepth 20000 in
theorem ggX7_readGate_X7_is : GoodIn wsX7_readGate wsX7_is := goodIn_r _ [69, 8, 32, 39, 40, 41, 15, 42, 33, 43, 88, 89, 90, 91, 92, 93, 94, 95, 96, 97, 98, 99, 100, 101, 102, 103, 104, 105, 106, 107, 108, 109, 110, 111, 112, 113, 114, 115, 116, 117, 118, 119, 120, 121, 122, 123, 124, 125, 126, 127, 128, 129, 130, 131, 132, 133, 134, 135, 136] (by decide +kernel) (by decide +kernel)
set_option maxRecDepth 20000 in
theorem gX7_readGate_X7_is : GoodIn wsX7_readGate (wsV RX7 176 RX7 yX7_is wsX7_is) := goodIn_app (goodIn_of _ (by decide +kernel)) ggX7_readGate_X7_is
set_option maxRecDepth 20000 in
theorem ggX7_readGate_X7_mostOf : GoodIn wsX7_readGate wsX7_mostOf := goodIn_r _ [72] (by decide +kernel) (by decide +kernel)
set_option maxRecDepth 20000 in
theorem gX7_readGate_X7_mostOf : GoodIn wsX7_readGate (va_wsS RX7 211 yX7_mostOf wsX7_mostOf) := goodIn_app (goodIn_of _ (by decide +kernel)) ggX7_readGate_X7_mostOf
set_option maxRecDepth 20000 in
theorem ggX7_readGate_X7_ask : GoodIn wsX7_readGate wsX7_ask := goodIn_r _ [76, 8, 77, 78, 9, 79, 32, 80, 62, 63, 64, 15, 65, 12, 13, 14, 16, 17, 18, 23, 24, 25, 26, 27, 28, 29, 30, 31, 33, 34, 35, 36, 37, 38, 11, 39, 40, 41, 42, 43, 44, 45, 46, 47, 48, 49, 50, 51, 52, 53, 54, 55, 56, 57, 58, 59, 60, 61, 88, 89, 90, 91, 92, 93, 94, 95, 96, 97, 98, 99, 100, 101, 102, 103, 104, 105, 106, 107, 108, 109, 110, 111, 112, 113, 114, 115, 116, 117, 118, 119, 120, 121, 122, 123, 124, 125, 126, 127, 128, 129, 130, 131, 132, 133, 134, 135, 136] (by decide +kernel) (by decide +kernel)
set_option maxRecDepth 20000 in
theorem gX7_readGate_X7_ask : GoodIn wsX7_readGate (wsV RX7 208 RX7 yX7_ask wsX7_ask) := goodIn_app (goodIn_of _ (by decide +kernel)) ggX7_readGate_X7_ask
set_option maxRecDepth 20000 in
theorem ggX7_readGate_X7_leastOf : GoodIn wsX7_readGate wsX7_leastOf := goodIn_r _ [83] (by decide +kernel) (by decide +kernel)
set_option maxRecDepth 20000 in
theorem gX7_readGate_X7_leastOf : GoodIn wsX7_readGate (va_wsS RX7 214 yX7_leastOf wsX7_leastOf) := goodIn_app (goodIn_of _ (by decide +kernel)) ggX7_readGate_X7_leastOf
set_option maxRecDepth 20000 in
theorem ggX7_readGate_X7_must : GoodIn wsX7_readGate wsX7_must := goodIn_r _ [87, 66, 67, 68, 15, 69, 8, 32, 39, 40, 41, 42, 33, 43, 27, 28, 29, 30, 31, 9, 34, 35, 36, 37, 38, 11, 44, 45, 46, 47, 48, 49, 50, 51, 52, 53, 54, 55, 56, 57, 58, 59, 60, 61, 62, 63, 64, 65, 12, 13, 14, 16, 17, 18, 88, 89, 90, 91, 92, 93, 94, 95, 96, 97, 98, 99, 100, 101, 102, 103, 104, 105, 106, 107, 108, 109, 110, 111, 112, 113, 114, 115, 116, 117, 118, 119, 120, 121, 122, 123, 124, 125, 126, 127, 128, 129, 130, 131, 132, 133, 134, 135, 136] (by decide +kernel) (by decide +kernel)
set_option maxRecDepth 20000 in
theorem gX7_readGate_X7_must : GoodIn wsX7_readGate (wsV RX7 204 RX7 yX7_must wsX7_must) := goodIn_app (goodIn_of _ (by decide +kernel)) ggX7_readGate_X7_must
theorem dX7_readGate_0 : decode cX7_readGate 0 = .ok (.aload_n 0, 1) := by decide +kernel
theorem dX7_readGate_1 : decode cX7_readGate 1 = .ok (.getfield 185, 3) := by decide +kernel
theorem dX7_readGate_4 : decode cX7_readGate 4 = .ok (.bipush 60, 2) := by decide +kernel
theorem dX7_readGate_6 : decode cX7_readGate 6 = .ok (.if_icmp .ne 9, 3) := by decide +kernel
theorem dX7_readGate_9 : decode cX7_readGate 9 = .ok (.aload_n 0, 1) := by decide +kernel
theorem dX7_readGate_10 : decode cX7_readGate 10 = .ok (.iconst 2, 1) := by decide +kernel
theorem dX7_readGate_11 : decode cX7_readGate 11 = .ok (.iload_n 3, 1) := by decide +kernel
theorem dX7_readGate_12 : decode cX7_readGate 12 = .ok (.invokevirtual 172, 3) := by decide +kernel
theorem dX7_readGate_15 : decode cX7_readGate 15 = .ok (.aload_n 0, 1) := by decide +kernel
theorem dX7_readGate_16 : decode cX7_readGate 16 = .ok (.lload_n 1, 1) := by decide +kernel
theorem dX7_readGate_17 : decode cX7_readGate 17 = .ok (.invokevirtual 195, 3) := by decide +kernel
theorem dX7_readGate_20 : decode cX7_readGate 20 = .ok (.ifCond .lt 9, 3) := by decide +kernel
theorem dX7_readGate_23 : decode cX7_readGate 23 = .ok (.aload_n 0, 1) := by decide +kernel
theorem dX7_readGate_24 : decode cX7_readGate 24 = .ok (.iconst 3, 1) := by decide +kernel
theorem dX7_readGate_25 : decode cX7_readGate 25 = .ok (.iload_n 3, 1) := by decide +kernel
theorem dX7_readGate_26 : decode cX7_readGate 26 = .ok (.invokevirtual 172, 3) := by decide +kernel
theorem dX7_readGate_29 : decode cX7_readGate 29 = .ok (.aload_n 0, 1) := by decide +kernel
theorem dX7_readGate_30 : decode cX7_readGate 30 = .ok (.invokevirtual 191, 3) := by decide +kernel
theorem dX7_readGate_33 : decode cX7_readGate 33 = .ok (.ifCond .ne 4, 3) := by decide +kernel
theorem dX7_readGate_36 : decode cX7_readGate 36 = .ok (.return_, 1) := by decide +kernel
theorem dX7_readGate_37 : decode cX7_readGate 37 = .ok (.bipush 60, 2) := by decide +kernel
theorem dX7_readGate_39 : decode cX7_readGate 39 = .ok (.aload_n 0, 1) := by decide +kernel
theorem dX7_readGate_40 : decode cX7_readGate 40 = .ok (.getfield 188, 3) := by decide +kernel
theorem dX7_readGate_43 : decode cX7_readGate 43 = .ok (.imul, 1) := by decide +kernel
theorem dX7_readGate_44 : decode cX7_readGate 44 = .ok (.aload_n 0, 1) := by decide +kernel
theorem dX7_readGate_45 : decode cX7_readGate 45 = .ok (.getfield 185, 3) := by decide +kernel
theorem dX7_readGate_48 : decode cX7_readGate 48 = .ok (.iadd, 1) := by decide +kernel
theorem dX7_readGate_49 : decode cX7_readGate 49 = .ok (.istore 4, 2) := by decide +kernel
theorem dX7_readGate_51 : decode cX7_readGate 51 = .ok (.aload_n 0, 1) := by decide +kernel
theorem dX7_readGate_52 : decode cX7_readGate 52 = .ok (.getfield 20, 3) := by decide +kernel
theorem dX7_readGate_55 : decode cX7_readGate 55 = .ok (.iload 4, 2) := by decide +kernel
theorem dX7_readGate_57 : decode cX7_readGate 57 = .ok (.lload_n 1, 1) := by decide +kernel
theorem dX7_readGate_58 : decode cX7_readGate 58 = .ok (.lastore, 1) := by decide +kernel
theorem dX7_readGate_59 : decode cX7_readGate 59 = .ok (.aload_n 0, 1) := by decide +kernel
theorem dX7_readGate_60 : decode cX7_readGate 60 = .ok (.getfield 24, 3) := by decide +kernel
theorem dX7_readGate_63 : decode cX7_readGate 63 = .ok (.iload 4, 2) := by decide +kernel
theorem dX7_readGate_65 : decode cX7_readGate 65 = .ok (.iconst 2, 1) := by decide +kernel
theorem dX7_readGate_66 : decode cX7_readGate 66 = .ok (.iastore, 1) := by decide +kernel
theorem dX7_readGate_67 : decode cX7_readGate 67 = .ok (.aload_n 0, 1) := by decide +kernel
theorem dX7_readGate_68 : decode cX7_readGate 68 = .ok (.getfield 31, 3) := by decide +kernel
theorem dX7_readGate_71 : decode cX7_readGate 71 = .ok (.iload 4, 2) := by decide +kernel
theorem dX7_readGate_73 : decode cX7_readGate 73 = .ok (.iconst 0, 1) := by decide +kernel
theorem dX7_readGate_74 : decode cX7_readGate 74 = .ok (.iastore, 1) := by decide +kernel
theorem dX7_readGate_75 : decode cX7_readGate 75 = .ok (.aload_n 0, 1) := by decide +kernel
theorem dX7_readGate_76 : decode cX7_readGate 76 = .ok (.getfield 34, 3) := by decide +kernel
theorem dX7_readGate_79 : decode cX7_readGate 79 = .ok (.iload 4, 2) := by decide +kernel
theorem dX7_readGate_81 : decode cX7_readGate 81 = .ok (.iconst 1, 1) := by decide +kernel
theorem dX7_readGate_82 : decode cX7_readGate 82 = .ok (.iastore, 1) := by decide +kernel
theorem dX7_readGate_83 : decode cX7_readGate 83 = .ok (.aload_n 0, 1) := by decide +kernel
theorem dX7_readGate_84 : decode cX7_readGate 84 = .ok (.getfield 43, 3) := by decide +kernel
theorem dX7_readGate_87 : decode cX7_readGate 87 = .ok (.aload_n 0, 1) := by decide +kernel
theorem dX7_readGate_88 : decode cX7_readGate 88 = .ok (.getfield 185, 3) := by decide +kernel
theorem dX7_readGate_91 : decode cX7_readGate 91 = .ok (.iload_n 3, 1) := by decide +kernel
theorem dX7_readGate_92 : decode cX7_readGate 92 = .ok (.iastore, 1) := by decide +kernel
theorem dX7_readGate_93 : decode cX7_readGate 93 = .ok (.aload_n 0, 1) := by decide +kernel
theorem dX7_readGate_94 : decode cX7_readGate 94 = .ok (.dup, 1) := by decide +kernel
theorem dX7_readGate_95 : decode cX7_readGate 95 = .ok (.getfield 185, 3) := by decide +kernel
theorem dX7_readGate_98 : decode cX7_readGate 98 = .ok (.iconst 1, 1) := by decide +kernel
theorem dX7_readGate_99 : decode cX7_readGate 99 = .ok (.iadd, 1) := by decide +kernel
theorem dX7_readGate_100 : decode cX7_readGate 100 = .ok (.putfield 185, 3) := by decide +kernel
theorem dX7_readGate_103 : decode cX7_readGate 103 = .ok (.aload_n 0, 1) := by decide +kernel
theorem dX7_readGate_104 : decode cX7_readGate 104 = .ok (.invokevirtual 179, 3) := by decide +kernel
theorem dX7_readGate_107 : decode cX7_readGate 107 = .ok (.aload_n 0, 1) := by decide +kernel
theorem dX7_readGate_108 : decode cX7_readGate 108 = .ok (.getfield 141, 3) := by decide +kernel
theorem dX7_readGate_111 : decode cX7_readGate 111 = .ok (.iconst 3, 1) := by decide +kernel
theorem dX7_readGate_112 : decode cX7_readGate 112 = .ok (.if_icmp .ne 13, 3) := by decide +kernel
theorem dX7_readGate_115 : decode cX7_readGate 115 = .ok (.aload_n 0, 1) := by decide +kernel
theorem dX7_readGate_116 : decode cX7_readGate 116 = .ok (.getfield 151, 3) := by decide +kernel
theorem dX7_readGate_119 : decode cX7_readGate 119 = .ok (.invokestatic 155, 3) := by decide +kernel
theorem dX7_readGate_122 : decode cX7_readGate 122 = .ok (.goto 4, 3) := by decide +kernel
theorem dX7_readGate_125 : decode cX7_readGate 125 = .ok (.iconst (-1), 1) := by decide +kernel
theorem dX7_readGate_126 : decode cX7_readGate 126 = .ok (.istore 5, 2) := by decide +kernel
theorem dX7_readGate_128 : decode cX7_readGate 128 = .ok (.iload 5, 2) := by decide +kernel
theorem dX7_readGate_130 : decode cX7_readGate 130 = .ok (.ifCond .ge 7, 3) := by decide +kernel
theorem dX7_readGate_133 : decode cX7_readGate 133 = .ok (.aload_n 0, 1) := by decide +kernel
theorem dX7_readGate_134 : decode cX7_readGate 134 = .ok (.invokevirtual 182, 3) := by decide +kernel
theorem dX7_readGate_137 : decode cX7_readGate 137 = .ok (.aload_n 0, 1) := by decide +kernel
theorem dX7_readGate_138 : decode cX7_readGate 138 = .ok (.invokevirtual 191, 3) := by decide +kernel
theorem dX7_readGate_141 : decode cX7_readGate 141 = .ok (.ifCond .ne 4, 3) := by decide +kernel
theorem dX7_readGate_144 : decode cX7_readGate 144 = .ok (.return_, 1) := by decide +kernel
theorem dX7_readGate_145 : decode cX7_readGate 145 = .ok (.aload_n 0, 1) := by decide +kernel
theorem dX7_readGate_146 : decode cX7_readGate 146 = .ok (.getfield 28, 3) := by decide +kernel
theorem dX7_readGate_149 : decode cX7_readGate 149 = .ok (.iload 4, 2) := by decide +kernel
theorem dX7_readGate_151 : decode cX7_readGate 151 = .ok (.iload 5, 2) := by decide +kernel
theorem dX7_readGate_153 : decode cX7_readGate 153 = .ok (.iastore, 1) := by decide +kernel
theorem dX7_readGate_154 : decode cX7_readGate 154 = .ok (.aload_n 0, 1) := by decide +kernel
theorem dX7_readGate_155 : decode cX7_readGate 155 = .ok (.invokevirtual 179, 3) := by decide +kernel
theorem dX7_readGate_158 : decode cX7_readGate 158 = .ok (.aload_n 0, 1) := by decide +kernel
theorem dX7_readGate_159 : decode cX7_readGate 159 = .ok (.bipush 40, 2) := by decide +kernel
theorem dX7_readGate_161 : decode cX7_readGate 161 = .ok (.invokevirtual 176, 3) := by decide +kernel
theorem dX7_readGate_164 : decode cX7_readGate 164 = .ok (.ifCond .ne 7, 3) := by decide +kernel
theorem dX7_readGate_167 : decode cX7_readGate 167 = .ok (.aload_n 0, 1) := by decide +kernel
theorem dX7_readGate_168 : decode cX7_readGate 168 = .ok (.invokevirtual 182, 3) := by decide +kernel
theorem dX7_readGate_171 : decode cX7_readGate 171 = .ok (.iconst 1, 1) := by decide +kernel
theorem dX7_readGate_172 : decode cX7_readGate 172 = .ok (.istore 6, 2) := by decide +kernel
theorem dX7_readGate_174 : decode cX7_readGate 174 = .ok (.iload 6, 2) := by decide +kernel
theorem dX7_readGate_176 : decode cX7_readGate 176 = .ok (.ifCond .eq 103, 3) := by decide +kernel
theorem dX7_readGate_179 : decode cX7_readGate 179 = .ok (.aload_n 0, 1) := by decide +kernel
theorem dX7_readGate_180 : decode cX7_readGate 180 = .ok (.invokevirtual 191, 3) := by decide +kernel
theorem dX7_readGate_183 : decode cX7_readGate 183 = .ok (.ifCond .eq 96, 3) := by decide +kernel
theorem dX7_readGate_186 : decode cX7_readGate 186 = .ok (.aload_n 0, 1) := by decide +kernel
theorem dX7_readGate_187 : decode cX7_readGate 187 = .ok (.invokevirtual 179, 3) := by decide +kernel
theorem dX7_readGate_190 : decode cX7_readGate 190 = .ok (.aload_n 0, 1) := by decide +kernel
theorem dX7_readGate_191 : decode cX7_readGate 191 = .ok (.getfield 141, 3) := by decide +kernel
theorem dX7_readGate_194 : decode cX7_readGate 194 = .ok (.iconst 2, 1) := by decide +kernel
theorem dX7_readGate_195 : decode cX7_readGate 195 = .ok (.if_icmp .ne 22, 3) := by decide +kernel
theorem dX7_readGate_198 : decode cX7_readGate 198 = .ok (.aload_n 0, 1) := by decide +kernel
theorem dX7_readGate_199 : decode cX7_readGate 199 = .ok (.getfield 31, 3) := by decide +kernel
theorem dX7_readGate_202 : decode cX7_readGate 202 = .ok (.iload 4, 2) := by decide +kernel
theorem dX7_readGate_204 : decode cX7_readGate 204 = .ok (.iaload, 1) := by decide +kernel
theorem dX7_readGate_205 : decode cX7_readGate 205 = .ok (.iload 5, 2) := by decide +kernel
theorem dX7_readGate_207 : decode cX7_readGate 207 = .ok (.invokestatic 211, 3) := by decide +kernel
theorem dX7_readGate_210 : decode cX7_readGate 210 = .ok (.if_icmp .ne 7, 3) := by decide +kernel
theorem dX7_readGate_213 : decode cX7_readGate 213 = .ok (.aload_n 0, 1) := by decide +kernel
theorem dX7_readGate_214 : decode cX7_readGate 214 = .ok (.invokevirtual 182, 3) := by decide +kernel
theorem dX7_readGate_217 : decode cX7_readGate 217 = .ok (.aload_n 0, 1) := by decide +kernel
theorem dX7_readGate_218 : decode cX7_readGate 218 = .ok (.invokevirtual 191, 3) := by decide +kernel
theorem dX7_readGate_221 : decode cX7_readGate 221 = .ok (.ifCond .ne 4, 3) := by decide +kernel
theorem dX7_readGate_224 : decode cX7_readGate 224 = .ok (.return_, 1) := by decide +kernel
theorem dX7_readGate_225 : decode cX7_readGate 225 = .ok (.aload_n 0, 1) := by decide +kernel
theorem dX7_readGate_226 : decode cX7_readGate 226 = .ok (.bipush 12, 2) := by decide +kernel
theorem dX7_readGate_228 : decode cX7_readGate 228 = .ok (.iload 4, 2) := by decide +kernel
theorem dX7_readGate_230 : decode cX7_readGate 230 = .ok (.imul, 1) := by decide +kernel
theorem dX7_readGate_231 : decode cX7_readGate 231 = .ok (.aload_n 0, 1) := by decide +kernel
theorem dX7_readGate_232 : decode cX7_readGate 232 = .ok (.getfield 31, 3) := by decide +kernel
theorem dX7_readGate_235 : decode cX7_readGate 235 = .ok (.iload 4, 2) := by decide +kernel
theorem dX7_readGate_237 : decode cX7_readGate 237 = .ok (.iaload, 1) := by decide +kernel
theorem dX7_readGate_238 : decode cX7_readGate 238 = .ok (.iadd, 1) := by decide +kernel
theorem dX7_readGate_239 : decode cX7_readGate 239 = .ok (.invokevirtual 208, 3) := by decide +kernel
theorem dX7_readGate_242 : decode cX7_readGate 242 = .ok (.aload_n 0, 1) := by decide +kernel
theorem dX7_readGate_243 : decode cX7_readGate 243 = .ok (.getfield 31, 3) := by decide +kernel
theorem dX7_readGate_246 : decode cX7_readGate 246 = .ok (.iload 4, 2) := by decide +kernel
theorem dX7_readGate_248 : decode cX7_readGate 248 = .ok (.dup2, 1) := by decide +kernel
theorem dX7_readGate_249 : decode cX7_readGate 249 = .ok (.iaload, 1) := by decide +kernel
theorem dX7_readGate_250 : decode cX7_readGate 250 = .ok (.iconst 1, 1) := by decide +kernel
theorem dX7_readGate_251 : decode cX7_readGate 251 = .ok (.iadd, 1) := by decide +kernel
theorem dX7_readGate_252 : decode cX7_readGate 252 = .ok (.iastore, 1) := by decide +kernel
theorem dX7_readGate_253 : decode cX7_readGate 253 = .ok (.aload_n 0, 1) := by decide +kernel
theorem dX7_readGate_254 : decode cX7_readGate 254 = .ok (.invokevirtual 191, 3) := by decide +kernel
theorem dX7_readGate_257 : decode cX7_readGate 257 = .ok (.ifCond .eq 16, 3) := by decide +kernel
theorem dX7_readGate_260 : decode cX7_readGate 260 = .ok (.aload_n 0, 1) := by decide +kernel
theorem dX7_readGate_261 : decode cX7_readGate 261 = .ok (.bipush 44, 2) := by decide +kernel
theorem dX7_readGate_263 : decode cX7_readGate 263 = .ok (.invokevirtual 176, 3) := by decide +kernel
theorem dX7_readGate_266 : decode cX7_readGate 266 = .ok (.ifCond .eq 7, 3) := by decide +kernel
theorem dX7_readGate_269 : decode cX7_readGate 269 = .ok (.iconst 1, 1) := by decide +kernel
theorem dX7_readGate_270 : decode cX7_readGate 270 = .ok (.goto 4, 3) := by decide +kernel
theorem dX7_readGate_273 : decode cX7_readGate 273 = .ok (.iconst 0, 1) := by decide +kernel
theorem dX7_readGate_274 : decode cX7_readGate 274 = .ok (.istore 6, 2) := by decide +kernel
theorem dX7_readGate_276 : decode cX7_readGate 276 = .ok (.goto (-102), 3) := by decide +kernel
theorem dX7_readGate_279 : decode cX7_readGate 279 = .ok (.aload_n 0, 1) := by decide +kernel
theorem dX7_readGate_280 : decode cX7_readGate 280 = .ok (.invokevirtual 191, 3) := by decide +kernel
theorem dX7_readGate_283 : decode cX7_readGate 283 = .ok (.ifCond .eq 31, 3) := by decide +kernel
theorem dX7_readGate_286 : decode cX7_readGate 286 = .ok (.aload_n 0, 1) := by decide +kernel
theorem dX7_readGate_287 : decode cX7_readGate 287 = .ok (.bipush 41, 2) := by decide +kernel
theorem dX7_readGate_289 : decode cX7_readGate 289 = .ok (.invokevirtual 176, 3) := by decide +kernel
theorem dX7_readGate_292 : decode cX7_readGate 292 = .ok (.ifCond .eq 22, 3) := by decide +kernel
theorem dX7_readGate_295 : decode cX7_readGate 295 = .ok (.aload_n 0, 1) := by decide +kernel
theorem dX7_readGate_296 : decode cX7_readGate 296 = .ok (.getfield 31, 3) := by decide +kernel
theorem dX7_readGate_299 : decode cX7_readGate 299 = .ok (.iload 4, 2) := by decide +kernel
theorem dX7_readGate_301 : decode cX7_readGate 301 = .ok (.iaload, 1) := by decide +kernel
theorem dX7_readGate_302 : decode cX7_readGate 302 = .ok (.iload 5, 2) := by decide +kernel
theorem dX7_readGate_304 : decode cX7_readGate 304 = .ok (.invokestatic 214, 3) := by decide +kernel
theorem dX7_readGate_307 : decode cX7_readGate 307 = .ok (.if_icmp .ge 7, 3) := by decide +kernel
theorem dX7_readGate_310 : decode cX7_readGate 310 = .ok (.aload_n 0, 1) := by decide +kernel
theorem dX7_readGate_311 : decode cX7_readGate 311 = .ok (.invokevirtual 182, 3) := by decide +kernel
theorem dX7_readGate_314 : decode cX7_readGate 314 = .ok (.aload_n 0, 1) := by decide +kernel
theorem dX7_readGate_315 : decode cX7_readGate 315 = .ok (.invokevirtual 191, 3) := by decide +kernel
theorem dX7_readGate_318 : decode cX7_readGate 318 = .ok (.ifCond .eq 9, 3) := by decide +kernel
theorem dX7_readGate_321 : decode cX7_readGate 321 = .ok (.aload_n 0, 1) := by decide +kernel
theorem dX7_readGate_322 : decode cX7_readGate 322 = .ok (.bipush 41, 2) := by decide +kernel
theorem dX7_readGate_324 : decode cX7_readGate 324 = .ok (.invokevirtual 204, 3) := by decide +kernel
theorem dX7_readGate_327 : decode cX7_readGate 327 = .ok (.aload_n 0, 1) := by decide +kernel
theorem dX7_readGate_328 : decode cX7_readGate 328 = .ok (.invokevirtual 191, 3) := by decide +kernel
theorem dX7_readGate_331 : decode cX7_readGate 331 = .ok (.ifCond .eq 26, 3) := by decide +kernel
theorem dX7_readGate_334 : decode cX7_readGate 334 = .ok (.aload_n 0, 1) := by decide +kernel
theorem dX7_readGate_335 : decode cX7_readGate 335 = .ok (.getfield 141, 3) := by decide +kernel
theorem dX7_readGate_338 : decode cX7_readGate 338 = .ok (.iconst 4, 1) := by decide +kernel
theorem dX7_readGate_339 : decode cX7_readGate 339 = .ok (.if_icmp .ne 18, 3) := by decide +kernel
theorem dX7_readGate_342 : decode cX7_readGate 342 = .ok (.aload_n 0, 1) := by decide +kernel
theorem dX7_readGate_343 : decode cX7_readGate 343 = .ok (.getfield 34, 3) := by decide +kernel
theorem dX7_readGate_346 : decode cX7_readGate 346 = .ok (.iload 4, 2) := by decide +kernel
theorem dX7_readGate_348 : decode cX7_readGate 348 = .ok (.aload_n 0, 1) := by decide +kernel
theorem dX7_readGate_349 : decode cX7_readGate 349 = .ok (.getfield 169, 3) := by decide +kernel
theorem dX7_readGate_352 : decode cX7_readGate 352 = .ok (.iastore, 1) := by decide +kernel
theorem dX7_readGate_353 : decode cX7_readGate 353 = .ok (.aload_n 0, 1) := by decide +kernel
theorem dX7_readGate_354 : decode cX7_readGate 354 = .ok (.invokevirtual 179, 3) := by decide +kernel
theorem dX7_readGate_357 : decode cX7_readGate 357 = .ok (.aload_n 0, 1) := by decide +kernel
theorem dX7_readGate_358 : decode cX7_readGate 358 = .ok (.invokevirtual 191, 3) := by decide +kernel
theorem dX7_readGate_361 : decode cX7_readGate 361 = .ok (.ifCond .eq 9, 3) := by decide +kernel
theorem dX7_readGate_364 : decode cX7_readGate 364 = .ok (.aload_n 0, 1) := by decide +kernel
theorem dX7_readGate_365 : decode cX7_readGate 365 = .ok (.bipush 59, 2) := by decide +kernel
theorem dX7_readGate_367 : decode cX7_readGate 367 = .ok (.invokevirtual 204, 3) := by decide +kernel
theorem dX7_readGate_370 : decode cX7_readGate 370 = .ok (.return_, 1) := by decide +kernel
set_option maxRecDepth 20000 in
theorem ggX7_readDriver_X7_fails : GoodIn wsX7_readDriver wsX7_fails := goodIn_r _ [15, 16, 17, 78, 79, 80, 81, 82, 83, 84, 85, 86, 87, 88, 89, 90, 91, 92, 93, 94, 95, 96, 97, 98, 99, 100, 101, 102, 103, 104, 105, 106, 107, 108, 109, 110, 111, 112, 113, 114, 115, 116, 117, 118, 119, 120, 121, 122, 123, 124, 125, 126] (by decide +kernel) (by decide +kernel)
set_option maxRecDepth 20000 in
theorem gX7_readDriver_X7_fails : GoodIn wsX7_readDriver (wsV RX7 172 RX7 yX7_fails wsX7_fails) := goodIn_app (goodIn_of _ (by decide +kernel)) ggX7_readDriver_X7_fails
set_option maxRecDepth 20000 in
theorem ggX7_readDriver_X7_isGood : GoodIn wsX7_readDriver wsX7_isGood := goodIn_r _ [21, 16, 78, 79, 80, 81, 82, 83, 84, 85, 86, 87, 88, 89, 90, 91, 92, 93, 94, 95, 96, 97, 98, 99, 100, 101, 102, 103, 104, 105, 106, 107, 108, 109, 110, 111, 112, 113, 114, 115, 116, 117, 118, 119, 120, 121, 122, 123, 124, 125, 126] (by decide +kernel) (by decide +kernel)
set_option maxRecDepth 20000 in
theorem gX7_readDriver_X7_isGood : GoodIn wsX7_readDriver (wsV RX7 191 RX7 yX7_isGood wsX7_isGood) := goodIn_app (goodIn_of _ (by decide +kernel)) ggX7_readDriver_X7_isGood
set_option maxRecDepth 20000 in
theorem ggX7_readDriver_X7_next : GoodIn wsX7_readDriver wsX7_next := goodIn_r _ [25, 26, 27, 28, 29, 30, 31, 32, 33, 8, 9, 34, 35, 36, 37, 14, 38, 39, 40, 41, 42, 43, 44, 45, 46, 47, 48, 49, 50, 51, 52, 53, 54, 55, 56, 57, 78, 79, 80, 81, 82, 83, 84, 85, 86, 87, 88, 89, 90, 91, 92, 93, 94, 95, 96, 97, 98, 99, 100, 101, 102, 103, 104, 105, 106, 107, 108, 109, 110, 111, 112, 113, 114, 115, 116, 117, 118, 119, 120, 121, 122, 123, 124, 125, 126] (by decide +kernel) (by decide +kernel)
set_option maxRecDepth 20000 in
theorem gX7_readDriver_X7_next : GoodIn wsX7_readDriver (wsV RX7 179 RX7 yX7_next wsX7_next) := goodIn_app (goodIn_of _ (by decide +kernel)) ggX7_readDriver_X7_next
set_option maxRecDepth 20000 in
theorem ggX7_readDriver_X7_isWord : GoodIn wsX7_readDriver wsX7_isWord := goodIn_r _ [61, 29, 30, 78, 79, 80, 81, 82, 83, 84, 85, 86, 87, 88, 89, 90, 91, 92, 93, 94, 95, 96, 97, 98, 99, 100, 101, 102, 103, 104, 105, 106, 107, 108, 109, 110, 111, 112, 113, 114, 115, 116, 117, 118, 119, 120, 121, 122, 123, 124, 125, 126] (by decide +kernel) (by decide +kernel)
set_option maxRecDepth 20000 in
theorem gX7_readDriver_X7_isWord : GoodIn wsX7_readDriver (wsV RX7 220 RX7 yX7_isWord wsX7_isWord) := goodIn_app (goodIn_of _ (by decide +kernel)) ggX7_readDriver_X7_isWord
set_option maxRecDepth 20000 in
theorem ggX7_readDriver_X7_wrong : GoodIn wsX7_readDriver wsX7_wrong := goodIn_r _ [65, 29, 27, 11, 12, 13, 14, 15, 16, 17, 78, 79, 80, 81, 82, 83, 84, 85, 86, 87, 88, 89, 90, 91, 92, 93, 94, 95, 96, 97, 98, 99, 100, 101, 102, 103, 104, 105, 106, 107, 108, 109, 110, 111, 112, 113, 114, 115, 116, 117, 118, 119, 120, 121, 122, 123, 124, 125, 126] (by decide +kernel) (by decide +kernel)
set_option maxRecDepth 20000 in
theorem gX7_readDriver_X7_wrong : GoodIn wsX7_readDriver (wsV RX7 182 RX7 yX7_wrong wsX7_wrong) := goodIn_app (goodIn_of _ (by decide +kernel)) ggX7_readDriver_X7_wrong
set_option maxRecDepth 20000 in
theorem ggX7_readDriver_X7_must : GoodIn wsX7_readDriver wsX7_must := goodIn_r _ [69, 70, 71, 72, 14, 73, 29, 27, 35, 36, 37, 38, 28, 39, 22, 23, 24, 25, 26, 30, 31, 32, 33, 8, 9, 34, 40, 41, 42, 43, 44, 45, 46, 47, 48, 49, 50, 51, 52, 53, 54, 55, 56, 57, 62, 63, 64, 65, 11, 12, 13, 15, 16, 17, 78, 79, 80, 81, 82, 83, 84, 85, 86, 87, 88, 89, 90, 91, 92, 93, 94, 95, 96, 97, 98, 99, 100, 101, 102, 103, 104, 105, 106, 107, 108, 109, 110, 111, 112, 113, 114, 115, 116, 117, 118, 119, 120, 121, 122, 123, 124, 125, 126] (by decide +kernel) (by decide +kernel)
set_option maxRecDepth 20000 in
theorem gX7_readDriver_X7_must : GoodIn wsX7_readDriver (wsV RX7 204 RX7 yX7_must wsX7_must) := goodIn_app (goodIn_of _ (by decide +kernel)) ggX7_readDriver_X7_must
set_option maxRecDepth 20000 in
theorem ggX7_readDriver_X7_ask : GoodIn wsX7_readDriver wsX7_ask := goodIn_r _ [77, 29, 3, 4, 30, 5, 27, 6, 62, 63, 64, 14, 65, 11, 12, 13, 15, 16, 17, 18, 19, 20, 21, 22, 23, 24, 25, 26, 28, 31, 32, 33, 8, 9, 34, 35, 36, 37, 38, 39, 40, 41, 42, 43, 44, 45, 46, 47, 48, 49, 50, 51, 52, 53, 54, 55, 56, 57, 78, 79, 80, 81, 82, 83, 84, 85, 86, 87, 88, 89, 90, 91, 92, 93, 94, 95, 96, 97, 98, 99, 100, 101, 102, 103, 104, 105, 106, 107, 108, 109, 110, 111, 112, 113, 114, 115, 116, 117, 118, 119, 120, 121, 122, 123, 124, 125, 126] (by decide +kernel) (by decide +kernel)
set_option maxRecDepth 20000 in
theorem gX7_readDriver_X7_ask : GoodIn wsX7_readDriver (wsV RX7 208 RX7 yX7_ask wsX7_ask) := goodIn_app (goodIn_of _ (by decide +kernel)) ggX7_readDriver_X7_ask
theorem dX7_readDriver_0 : decode cX7_readDriver 0 = .ok (.iconst 0, 1) := by decide +kernel
theorem dX7_readDriver_1 : decode cX7_readDriver 1 = .ok (.istore 4, 2) := by decide +kernel
theorem dX7_readDriver_3 : decode cX7_readDriver 3 = .ok (.iconst 0, 1) := by decide +kernel
theorem dX7_readDriver_4 : decode cX7_readDriver 4 = .ok (.istore 5, 2) := by decide +kernel
theorem dX7_readDriver_6 : decode cX7_readDriver 6 = .ok (.iload 5, 2) := by decide +kernel
theorem dX7_readDriver_8 : decode cX7_readDriver 8 = .ok (.aload_n 0, 1) := by decide +kernel
theorem dX7_readDriver_9 : decode cX7_readDriver 9 = .ok (.getfield 217, 3) := by decide +kernel
theorem dX7_readDriver_12 : decode cX7_readDriver 12 = .ok (.if_icmp .ge 31, 3) := by decide +kernel
theorem dX7_readDriver_15 : decode cX7_readDriver 15 = .ok (.iload 4, 2) := by decide +kernel
theorem dX7_readDriver_17 : decode cX7_readDriver 17 = .ok (.aload_n 0, 1) := by decide +kernel
theorem dX7_readDriver_18 : decode cX7_readDriver 18 = .ok (.getfield 59, 3) := by decide +kernel
theorem dX7_readDriver_21 : decode cX7_readDriver 21 = .ok (.iload 5, 2) := by decide +kernel
theorem dX7_readDriver_23 : decode cX7_readDriver 23 = .ok (.laload, 1) := by decide +kernel
theorem dX7_readDriver_24 : decode cX7_readDriver 24 = .ok (.lload_n 1, 1) := by decide +kernel
theorem dX7_readDriver_25 : decode cX7_readDriver 25 = .ok (.lcmp, 1) := by decide +kernel
theorem dX7_readDriver_26 : decode cX7_readDriver 26 = .ok (.ifCond .ne 7, 3) := by decide +kernel
theorem dX7_readDriver_29 : decode cX7_readDriver 29 = .ok (.iconst 1, 1) := by decide +kernel
theorem dX7_readDriver_30 : decode cX7_readDriver 30 = .ok (.goto 4, 3) := by decide +kernel
theorem dX7_readDriver_33 : decode cX7_readDriver 33 = .ok (.iconst 0, 1) := by decide +kernel
theorem dX7_readDriver_34 : decode cX7_readDriver 34 = .ok (.iadd, 1) := by decide +kernel
theorem dX7_readDriver_35 : decode cX7_readDriver 35 = .ok (.istore 4, 2) := by decide +kernel
theorem dX7_readDriver_37 : decode cX7_readDriver 37 = .ok (.iinc 5 1, 3) := by decide +kernel
theorem dX7_readDriver_40 : decode cX7_readDriver 40 = .ok (.goto (-34), 3) := by decide +kernel
theorem dX7_readDriver_43 : decode cX7_readDriver 43 = .ok (.iload 4, 2) := by decide +kernel
theorem dX7_readDriver_45 : decode cX7_readDriver 45 = .ok (.bipush 6, 2) := by decide +kernel
theorem dX7_readDriver_47 : decode cX7_readDriver 47 = .ok (.if_icmp .ne 9, 3) := by decide +kernel
theorem dX7_readDriver_50 : decode cX7_readDriver 50 = .ok (.aload_n 0, 1) := by decide +kernel
theorem dX7_readDriver_51 : decode cX7_readDriver 51 = .ok (.iconst 2, 1) := by decide +kernel
theorem dX7_readDriver_52 : decode cX7_readDriver 52 = .ok (.iload_n 3, 1) := by decide +kernel
theorem dX7_readDriver_53 : decode cX7_readDriver 53 = .ok (.invokevirtual 172, 3) := by decide +kernel
theorem dX7_readDriver_56 : decode cX7_readDriver 56 = .ok (.aload_n 0, 1) := by decide +kernel
theorem dX7_readDriver_57 : decode cX7_readDriver 57 = .ok (.invokevirtual 191, 3) := by decide +kernel
theorem dX7_readDriver_60 : decode cX7_readDriver 60 = .ok (.ifCond .ne 4, 3) := by decide +kernel
theorem dX7_readDriver_63 : decode cX7_readDriver 63 = .ok (.return_, 1) := by decide +kernel
theorem dX7_readDriver_64 : decode cX7_readDriver 64 = .ok (.aload_n 0, 1) := by decide +kernel
theorem dX7_readDriver_65 : decode cX7_readDriver 65 = .ok (.getfield 50, 3) := by decide +kernel
theorem dX7_readDriver_68 : decode cX7_readDriver 68 = .ok (.aload_n 0, 1) := by decide +kernel
theorem dX7_readDriver_69 : decode cX7_readDriver 69 = .ok (.getfield 198, 3) := by decide +kernel
theorem dX7_readDriver_72 : decode cX7_readDriver 72 = .ok (.lload_n 1, 1) := by decide +kernel
theorem dX7_readDriver_73 : decode cX7_readDriver 73 = .ok (.lastore, 1) := by decide +kernel
theorem dX7_readDriver_74 : decode cX7_readDriver 74 = .ok (.aload_n 0, 1) := by decide +kernel
theorem dX7_readDriver_75 : decode cX7_readDriver 75 = .ok (.getfield 53, 3) := by decide +kernel
theorem dX7_readDriver_78 : decode cX7_readDriver 78 = .ok (.aload_n 0, 1) := by decide +kernel
theorem dX7_readDriver_79 : decode cX7_readDriver 79 = .ok (.getfield 198, 3) := by decide +kernel
theorem dX7_readDriver_82 : decode cX7_readDriver 82 = .ok (.iload_n 3, 1) := by decide +kernel
theorem dX7_readDriver_83 : decode cX7_readDriver 83 = .ok (.iastore, 1) := by decide +kernel
theorem dX7_readDriver_84 : decode cX7_readDriver 84 = .ok (.aload_n 0, 1) := by decide +kernel
theorem dX7_readDriver_85 : decode cX7_readDriver 85 = .ok (.getfield 56, 3) := by decide +kernel
theorem dX7_readDriver_88 : decode cX7_readDriver 88 = .ok (.aload_n 0, 1) := by decide +kernel
theorem dX7_readDriver_89 : decode cX7_readDriver 89 = .ok (.getfield 198, 3) := by decide +kernel
theorem dX7_readDriver_92 : decode cX7_readDriver 92 = .ok (.iconst (-1), 1) := by decide +kernel
theorem dX7_readDriver_93 : decode cX7_readDriver 93 = .ok (.iastore, 1) := by decide +kernel
theorem dX7_readDriver_94 : decode cX7_readDriver 94 = .ok (.aload_n 0, 1) := by decide +kernel
theorem dX7_readDriver_95 : decode cX7_readDriver 95 = .ok (.getfield 59, 3) := by decide +kernel
theorem dX7_readDriver_98 : decode cX7_readDriver 98 = .ok (.aload_n 0, 1) := by decide +kernel
theorem dX7_readDriver_99 : decode cX7_readDriver 99 = .ok (.getfield 217, 3) := by decide +kernel
theorem dX7_readDriver_102 : decode cX7_readDriver 102 = .ok (.lload_n 1, 1) := by decide +kernel
theorem dX7_readDriver_103 : decode cX7_readDriver 103 = .ok (.lastore, 1) := by decide +kernel
theorem dX7_readDriver_104 : decode cX7_readDriver 104 = .ok (.aload_n 0, 1) := by decide +kernel
theorem dX7_readDriver_105 : decode cX7_readDriver 105 = .ok (.getfield 62, 3) := by decide +kernel
theorem dX7_readDriver_108 : decode cX7_readDriver 108 = .ok (.aload_n 0, 1) := by decide +kernel
theorem dX7_readDriver_109 : decode cX7_readDriver 109 = .ok (.getfield 217, 3) := by decide +kernel
theorem dX7_readDriver_112 : decode cX7_readDriver 112 = .ok (.aload_n 0, 1) := by decide +kernel
theorem dX7_readDriver_113 : decode cX7_readDriver 113 = .ok (.getfield 198, 3) := by decide +kernel
theorem dX7_readDriver_116 : decode cX7_readDriver 116 = .ok (.iastore, 1) := by decide +kernel
theorem dX7_readDriver_117 : decode cX7_readDriver 117 = .ok (.aload_n 0, 1) := by decide +kernel
theorem dX7_readDriver_118 : decode cX7_readDriver 118 = .ok (.dup, 1) := by decide +kernel
theorem dX7_readDriver_119 : decode cX7_readDriver 119 = .ok (.getfield 198, 3) := by decide +kernel
theorem dX7_readDriver_122 : decode cX7_readDriver 122 = .ok (.iconst 1, 1) := by decide +kernel
theorem dX7_readDriver_123 : decode cX7_readDriver 123 = .ok (.iadd, 1) := by decide +kernel
theorem dX7_readDriver_124 : decode cX7_readDriver 124 = .ok (.putfield 198, 3) := by decide +kernel
theorem dX7_readDriver_127 : decode cX7_readDriver 127 = .ok (.aload_n 0, 1) := by decide +kernel
theorem dX7_readDriver_128 : decode cX7_readDriver 128 = .ok (.invokevirtual 179, 3) := by decide +kernel
theorem dX7_readDriver_131 : decode cX7_readDriver 131 = .ok (.aload_n 0, 1) := by decide +kernel
theorem dX7_readDriver_132 : decode cX7_readDriver 132 = .ok (.ldc2_w 165, 3) := by decide +kernel
theorem dX7_readDriver_135 : decode cX7_readDriver 135 = .ok (.invokevirtual 220, 3) := by decide +kernel
theorem dX7_readDriver_138 : decode cX7_readDriver 138 = .ok (.ifCond .ne 17, 3) := by decide +kernel
theorem dX7_readDriver_141 : decode cX7_readDriver 141 = .ok (.aload_n 0, 1) := by decide +kernel
theorem dX7_readDriver_142 : decode cX7_readDriver 142 = .ok (.ldc2_w 167, 3) := by decide +kernel
theorem dX7_readDriver_145 : decode cX7_readDriver 145 = .ok (.invokevirtual 220, 3) := by decide +kernel
theorem dX7_readDriver_148 : decode cX7_readDriver 148 = .ok (.ifCond .ne 7, 3) := by decide +kernel
theorem dX7_readDriver_151 : decode cX7_readDriver 151 = .ok (.aload_n 0, 1) := by decide +kernel
theorem dX7_readDriver_152 : decode cX7_readDriver 152 = .ok (.invokevirtual 182, 3) := by decide +kernel
theorem dX7_readDriver_155 : decode cX7_readDriver 155 = .ok (.aload_n 0, 1) := by decide +kernel
theorem dX7_readDriver_156 : decode cX7_readDriver 156 = .ok (.invokevirtual 191, 3) := by decide +kernel
theorem dX7_readDriver_159 : decode cX7_readDriver 159 = .ok (.ifCond .ne 4, 3) := by decide +kernel
theorem dX7_readDriver_162 : decode cX7_readDriver 162 = .ok (.return_, 1) := by decide +kernel
theorem dX7_readDriver_163 : decode cX7_readDriver 163 = .ok (.aload_n 0, 1) := by decide +kernel
theorem dX7_readDriver_164 : decode cX7_readDriver 164 = .ok (.getfield 65, 3) := by decide +kernel
theorem dX7_readDriver_167 : decode cX7_readDriver 167 = .ok (.aload_n 0, 1) := by decide +kernel
theorem dX7_readDriver_168 : decode cX7_readDriver 168 = .ok (.getfield 217, 3) := by decide +kernel
theorem dX7_readDriver_171 : decode cX7_readDriver 171 = .ok (.aload_n 0, 1) := by decide +kernel
theorem dX7_readDriver_172 : decode cX7_readDriver 172 = .ok (.ldc2_w 165, 3) := by decide +kernel
theorem dX7_readDriver_175 : decode cX7_readDriver 175 = .ok (.invokevirtual 220, 3) := by decide +kernel
theorem dX7_readDriver_178 : decode cX7_readDriver 178 = .ok (.bastore, 1) := by decide +kernel
theorem dX7_readDriver_179 : decode cX7_readDriver 179 = .ok (.aload_n 0, 1) := by decide +kernel
theorem dX7_readDriver_180 : decode cX7_readDriver 180 = .ok (.dup, 1) := by decide +kernel
theorem dX7_readDriver_181 : decode cX7_readDriver 181 = .ok (.getfield 217, 3) := by decide +kernel
theorem dX7_readDriver_184 : decode cX7_readDriver 184 = .ok (.iconst 1, 1) := by decide +kernel
theorem dX7_readDriver_185 : decode cX7_readDriver 185 = .ok (.iadd, 1) := by decide +kernel
theorem dX7_readDriver_186 : decode cX7_readDriver 186 = .ok (.putfield 217, 3) := by decide +kernel
theorem dX7_readDriver_189 : decode cX7_readDriver 189 = .ok (.aload_n 0, 1) := by decide +kernel
theorem dX7_readDriver_190 : decode cX7_readDriver 190 = .ok (.invokevirtual 179, 3) := by decide +kernel
theorem dX7_readDriver_193 : decode cX7_readDriver 193 = .ok (.aload_n 0, 1) := by decide +kernel
theorem dX7_readDriver_194 : decode cX7_readDriver 194 = .ok (.bipush 40, 2) := by decide +kernel
theorem dX7_readDriver_196 : decode cX7_readDriver 196 = .ok (.invokevirtual 204, 3) := by decide +kernel
theorem dX7_readDriver_199 : decode cX7_readDriver 199 = .ok (.aload_n 0, 1) := by decide +kernel
theorem dX7_readDriver_200 : decode cX7_readDriver 200 = .ok (.invokevirtual 191, 3) := by decide +kernel
theorem dX7_readDriver_203 : decode cX7_readDriver 203 = .ok (.ifCond .eq 8, 3) := by decide +kernel
theorem dX7_readDriver_206 : decode cX7_readDriver 206 = .ok (.aload_n 0, 1) := by decide +kernel
theorem dX7_readDriver_207 : decode cX7_readDriver 207 = .ok (.iconst 0, 1) := by decide +kernel
theorem dX7_readDriver_208 : decode cX7_readDriver 208 = .ok (.invokevirtual 208, 3) := by decide +kernel
theorem dX7_readDriver_211 : decode cX7_readDriver 211 = .ok (.aload_n 0, 1) := by decide +kernel
theorem dX7_readDriver_212 : decode cX7_readDriver 212 = .ok (.invokevirtual 191, 3) := by decide +kernel
theorem dX7_readDriver_215 : decode cX7_readDriver 215 = .ok (.ifCond .eq 9, 3) := by decide +kernel
theorem dX7_readDriver_218 : decode cX7_readDriver 218 = .ok (.aload_n 0, 1) := by decide +kernel
theorem dX7_readDriver_219 : decode cX7_readDriver 219 = .ok (.bipush 44, 2) := by decide +kernel
theorem dX7_readDriver_221 : decode cX7_readDriver 221 = .ok (.invokevirtual 204, 3) := by decide +kernel
theorem dX7_readDriver_224 : decode cX7_readDriver 224 = .ok (.aload_n 0, 1) := by decide +kernel
theorem dX7_readDriver_225 : decode cX7_readDriver 225 = .ok (.invokevirtual 191, 3) := by decide +kernel
theorem dX7_readDriver_228 : decode cX7_readDriver 228 = .ok (.ifCond .eq 8, 3) := by decide +kernel
theorem dX7_readDriver_231 : decode cX7_readDriver 231 = .ok (.aload_n 0, 1) := by decide +kernel
theorem dX7_readDriver_232 : decode cX7_readDriver 232 = .ok (.iconst 0, 1) := by decide +kernel
theorem dX7_readDriver_233 : decode cX7_readDriver 233 = .ok (.invokevirtual 208, 3) := by decide +kernel
theorem dX7_readDriver_236 : decode cX7_readDriver 236 = .ok (.aload_n 0, 1) := by decide +kernel
theorem dX7_readDriver_237 : decode cX7_readDriver 237 = .ok (.invokevirtual 191, 3) := by decide +kernel
theorem dX7_readDriver_240 : decode cX7_readDriver 240 = .ok (.ifCond .eq 9, 3) := by decide +kernel
theorem dX7_readDriver_243 : decode cX7_readDriver 243 = .ok (.aload_n 0, 1) := by decide +kernel
theorem dX7_readDriver_244 : decode cX7_readDriver 244 = .ok (.bipush 41, 2) := by decide +kernel
theorem dX7_readDriver_246 : decode cX7_readDriver 246 = .ok (.invokevirtual 204, 3) := by decide +kernel
theorem dX7_readDriver_249 : decode cX7_readDriver 249 = .ok (.aload_n 0, 1) := by decide +kernel
theorem dX7_readDriver_250 : decode cX7_readDriver 250 = .ok (.invokevirtual 191, 3) := by decide +kernel
theorem dX7_readDriver_253 : decode cX7_readDriver 253 = .ok (.ifCond .eq 9, 3) := by decide +kernel
theorem dX7_readDriver_256 : decode cX7_readDriver 256 = .ok (.aload_n 0, 1) := by decide +kernel
theorem dX7_readDriver_257 : decode cX7_readDriver 257 = .ok (.bipush 59, 2) := by decide +kernel
theorem dX7_readDriver_259 : decode cX7_readDriver 259 = .ok (.invokevirtual 204, 3) := by decide +kernel
theorem dX7_readDriver_262 : decode cX7_readDriver 262 = .ok (.return_, 1) := by decide +kernel
set_option maxRecDepth 20000 in
theorem ggX7_readLine_X7_isWord : GoodIn wsX7_readLine wsX7_isWord := goodIn_r _ [11, 4, 5, 116, 117, 118, 119, 120, 121, 122, 123, 124, 125, 126, 127, 128, 129, 130, 131, 132, 133, 134, 135, 136, 137, 138, 139, 140, 141, 142, 143, 144, 145, 146, 147, 148, 149, 150, 151, 152, 153, 154, 155, 156, 157, 158, 159, 160, 161, 162, 163, 164] (by decide +kernel) (by decide +kernel)
set_option maxRecDepth 20000 in
theorem gX7_readLine_X7_isWord : GoodIn wsX7_readLine (wsV RX7 220 RX7 yX7_isWord wsX7_isWord) := goodIn_app (goodIn_of _ (by decide +kernel)) ggX7_readLine_X7_isWord
set_option maxRecDepth 20000 in
theorem ggX7_readLine_X7_tellAll : GoodIn wsX7_readLine wsX7_tellAll := goodIn_r _ [15, 16, 17, 18, 10, 19, 20, 21, 22, 23, 24, 25, 6, 26, 4, 5, 1, 2, 3, 27, 28, 29, 30, 31, 32, 33, 34, 35, 36, 37, 38, 39, 40, 41, 42, 43, 44, 45, 46, 47, 48, 49, 50, 51, 52, 53, 54, 55, 56, 57, 58, 59, 60, 61, 62, 63, 64, 65, 66, 67, 68, 69, 70, 71, 72, 73, 74, 75, 76, 77, 78, 79, 80, 81, 82, 83, 84, 85, 116, 117, 118, 119, 120, 121, 122, 123, 124, 125, 126, 127, 128, 129, 130, 131, 132, 133, 134, 135, 136, 137, 138, 139, 140, 141, 142, 143, 144, 145, 146, 147, 148, 149, 150, 151, 152, 153, 154, 155, 156, 157, 158, 159, 160, 161, 162, 163, 164] (by decide +kernel) (by decide +kernel)
set_option maxRecDepth 20000 in
theorem gX7_readLine_X7_tellAll : GoodIn wsX7_readLine (wsV RX7 224 RX7 yX7_tellAll wsX7_tellAll) := goodIn_app (goodIn_of _ (by decide +kernel)) ggX7_readLine_X7_tellAll
set_option maxRecDepth 20000 in
theorem ggX7_readLine_X7_readRegister : GoodIn wsX7_readLine wsX7_readRegister := goodIn_r _ [89, 62, 21, 22, 23, 10, 24, 25, 6, 26, 4, 5, 1, 2, 3, 27, 28, 29, 30, 31, 32, 33, 34, 35, 36, 37, 38, 39, 40, 41, 42, 43, 44, 45, 46, 47, 48, 49, 50, 51, 52, 53, 54, 55, 56, 57, 58, 59, 60, 61, 63, 64, 65, 66, 67, 68, 69, 70, 71, 72, 20, 73, 16, 17, 18, 19, 74, 75, 76, 77, 82, 83, 84, 85, 78, 79, 80, 81, 90, 91, 92, 93, 94, 95, 96, 97, 116, 117, 118, 119, 120, 121, 122, 123, 124, 125, 126, 127, 128, 129, 130, 131, 132, 133, 134, 135, 136, 137, 138, 139, 140, 141, 142, 143, 144, 145, 146, 147, 148, 149, 150, 151, 152, 153, 154, 155, 156, 157, 158, 159, 160, 161, 162, 163, 164] (by decide +kernel) (by decide +kernel)
set_option maxRecDepth 20000 in
theorem gX7_readLine_X7_readRegister : GoodIn wsX7_readLine (wsV RX7 227 RX7 yX7_readRegister wsX7_readRegister) := goodIn_app (goodIn_of _ (by decide +kernel)) ggX7_readLine_X7_readRegister
set_option maxRecDepth 20000 in
theorem ggX7_readLine_X7_next : GoodIn wsX7_readLine wsX7_next := goodIn_r _ [24, 25, 6, 26, 4, 5, 1, 2, 3, 27, 28, 29, 30, 31, 32, 10, 33, 34, 35, 36, 37, 38, 39, 40, 41, 42, 43, 44, 45, 46, 47, 48, 49, 50, 51, 52, 116, 117, 118, 119, 120, 121, 122, 123, 124, 125, 126, 127, 128, 129, 130, 131, 132, 133, 134, 135, 136, 137, 138, 139, 140, 141, 142, 143, 144, 145, 146, 147, 148, 149, 150, 151, 152, 153, 154, 155, 156, 157, 158, 159, 160, 161, 162, 163, 164] (by decide +kernel) (by decide +kernel)
set_option maxRecDepth 20000 in
theorem gX7_readLine_X7_next : GoodIn wsX7_readLine (wsV RX7 179 RX7 yX7_next wsX7_next) := goodIn_app (goodIn_of _ (by decide +kernel)) ggX7_readLine_X7_next
set_option maxRecDepth 20000 in
theorem ggX7_readLine_X7_is : GoodIn wsX7_readLine wsX7_is := goodIn_r _ [81, 4, 6, 30, 31, 32, 10, 33, 26, 34, 116, 117, 118, 119, 120, 121, 122, 123, 124, 125, 126, 127, 128, 129, 130, 131, 132, 133, 134, 135, 136, 137, 138, 139, 140, 141, 142, 143, 144, 145, 146, 147, 148, 149, 150, 151, 152, 153, 154, 155, 156, 157, 158, 159, 160, 161, 162, 163, 164] (by decide +kernel) (by decide +kernel)
set_option maxRecDepth 20000 in
theorem gX7_readLine_X7_is : GoodIn wsX7_readLine (wsV RX7 176 RX7 yX7_is wsX7_is) := goodIn_app (goodIn_of _ (by decide +kernel)) ggX7_readLine_X7_is
set_option maxRecDepth 20000 in
theorem ggX7_readLine_X7_readGate : GoodIn wsX7_readLine wsX7_readGate := goodIn_r _ [101, 57, 58, 59, 60, 62, 63, 64, 4, 5, 61, 29, 69, 70, 71, 10, 72, 20, 73, 74, 75, 76, 77, 16, 17, 18, 19, 21, 22, 23, 24, 25, 6, 26, 1, 2, 3, 27, 28, 30, 31, 32, 33, 34, 35, 36, 37, 38, 39, 40, 41, 42, 43, 44, 45, 46, 47, 48, 49, 50, 51, 52, 65, 66, 67, 68, 78, 79, 80, 81, 102, 103, 104, 90, 91, 92, 93, 94, 95, 96, 97, 105, 106, 107, 82, 83, 84, 85, 116, 117, 118, 119, 120, 121, 122, 123, 124, 125, 126, 127, 128, 129, 130, 131, 132, 133, 134, 135, 136, 137, 138, 139, 140, 141, 142, 143, 144, 145, 146, 147, 148, 149, 150, 151, 152, 153, 154, 155, 156, 157, 158, 159, 160, 161, 162, 163, 164] (by decide +kernel) (by decide +kernel)
set_option maxRecDepth 20000 in
theorem gX7_readLine_X7_readGate : GoodIn wsX7_readLine (wsV RX7 230 RX7 yX7_readGate wsX7_readGate) := goodIn_app (goodIn_of _ (by decide +kernel)) ggX7_readLine_X7_readGate
set_option maxRecDepth 20000 in
theorem ggX7_readLine_X7_readDriver : GoodIn wsX7_readLine wsX7_readDriver := goodIn_r _ [111, 112, 113, 94, 95, 96, 97, 114, 27, 28, 115, 69, 70, 71, 10, 72, 20, 73, 16, 17, 18, 19, 21, 22, 23, 24, 25, 6, 26, 4, 5, 1, 2, 3, 29, 30, 31, 32, 33, 34, 35, 36, 37, 38, 39, 40, 41, 42, 43, 44, 45, 46, 47, 48, 49, 50, 51, 52, 7, 8, 9, 11, 65, 66, 67, 68, 82, 83, 84, 85, 78, 79, 80, 81, 90, 91, 92, 93, 116, 117, 118, 119, 120, 121, 122, 123, 124, 125, 126, 127, 128, 129, 130, 131, 132, 133, 134, 135, 136, 137, 138, 139, 140, 141, 142, 143, 144, 145, 146, 147, 148, 149, 150, 151, 152, 153, 154, 155, 156, 157, 158, 159, 160, 161, 162, 163, 164] (by decide +kernel) (by decide +kernel)
set_option maxRecDepth 20000 in
theorem gX7_readLine_X7_readDriver : GoodIn wsX7_readLine (wsV RX7 234 RX7 yX7_readDriver wsX7_readDriver) := goodIn_app (goodIn_of _ (by decide +kernel)) ggX7_readLine_X7_readDriver
set_option maxRecDepth 20000 in
theorem ggX7_readLine_X7_wrong : GoodIn wsX7_readLine wsX7_wrong := goodIn_r _ [68, 4, 6, 69, 70, 71, 10, 72, 20, 73, 116, 117, 118, 119, 120, 121, 122, 123, 124, 125, 126, 127, 128, 129, 130, 131, 132, 133, 134, 135, 136, 137, 138, 139, 140, 141, 142, 143, 144, 145, 146, 147, 148, 149, 150, 151, 152, 153, 154, 155, 156, 157, 158, 159, 160, 161, 162, 163, 164] (by decide +kernel) (by decide +kernel)
set_option maxRecDepth 20000 in
theorem gX7_readLine_X7_wrong : GoodIn wsX7_readLine (wsV RX7 182 RX7 yX7_wrong wsX7_wrong) := goodIn_app (goodIn_of _ (by decide +kernel)) ggX7_readLine_X7_wrong
theorem dX7_readLine_0 : decode cX7_readLine 0 = .ok (.aload_n 0, 1) := by decide +kernel
theorem dX7_readLine_1 : decode cX7_readLine 1 = .ok (.ldc2_w 159, 3) := by decide +kernel
theorem dX7_readLine_4 : decode cX7_readLine 4 = .ok (.invokevirtual 220, 3) := by decide +kernel
theorem dX7_readLine_7 : decode cX7_readLine 7 = .ok (.ifCond .eq 11, 3) := by decide +kernel
theorem dX7_readLine_10 : decode cX7_readLine 10 = .ok (.aload_n 0, 1) := by decide +kernel
theorem dX7_readLine_11 : decode cX7_readLine 11 = .ok (.iconst 0, 1) := by decide +kernel
theorem dX7_readLine_12 : decode cX7_readLine 12 = .ok (.invokevirtual 224, 3) := by decide +kernel
theorem dX7_readLine_15 : decode cX7_readLine 15 = .ok (.goto 107, 3) := by decide +kernel
theorem dX7_readLine_18 : decode cX7_readLine 18 = .ok (.aload_n 0, 1) := by decide +kernel
theorem dX7_readLine_19 : decode cX7_readLine 19 = .ok (.ldc2_w 161, 3) := by decide +kernel
theorem dX7_readLine_22 : decode cX7_readLine 22 = .ok (.invokevirtual 220, 3) := by decide +kernel
theorem dX7_readLine_25 : decode cX7_readLine 25 = .ok (.ifCond .eq 11, 3) := by decide +kernel
theorem dX7_readLine_28 : decode cX7_readLine 28 = .ok (.aload_n 0, 1) := by decide +kernel
theorem dX7_readLine_29 : decode cX7_readLine 29 = .ok (.iconst 1, 1) := by decide +kernel
theorem dX7_readLine_30 : decode cX7_readLine 30 = .ok (.invokevirtual 224, 3) := by decide +kernel
theorem dX7_readLine_33 : decode cX7_readLine 33 = .ok (.goto 89, 3) := by decide +kernel
theorem dX7_readLine_36 : decode cX7_readLine 36 = .ok (.aload_n 0, 1) := by decide +kernel
theorem dX7_readLine_37 : decode cX7_readLine 37 = .ok (.ldc2_w 163, 3) := by decide +kernel
theorem dX7_readLine_40 : decode cX7_readLine 40 = .ok (.invokevirtual 220, 3) := by decide +kernel
theorem dX7_readLine_43 : decode cX7_readLine 43 = .ok (.ifCond .eq 10, 3) := by decide +kernel
theorem dX7_readLine_46 : decode cX7_readLine 46 = .ok (.aload_n 0, 1) := by decide +kernel
theorem dX7_readLine_47 : decode cX7_readLine 47 = .ok (.invokevirtual 227, 3) := by decide +kernel
theorem dX7_readLine_50 : decode cX7_readLine 50 = .ok (.goto 72, 3) := by decide +kernel
theorem dX7_readLine_53 : decode cX7_readLine 53 = .ok (.aload_n 0, 1) := by decide +kernel
theorem dX7_readLine_54 : decode cX7_readLine 54 = .ok (.getfield 141, 3) := by decide +kernel
theorem dX7_readLine_57 : decode cX7_readLine 57 = .ok (.iconst 2, 1) := by decide +kernel
theorem dX7_readLine_58 : decode cX7_readLine 58 = .ok (.if_icmp .ne 60, 3) := by decide +kernel
theorem dX7_readLine_61 : decode cX7_readLine 61 = .ok (.aload_n 0, 1) := by decide +kernel
theorem dX7_readLine_62 : decode cX7_readLine 62 = .ok (.getfield 151, 3) := by decide +kernel
theorem dX7_readLine_65 : decode cX7_readLine 65 = .ok (.lstore_n 1, 1) := by decide +kernel
theorem dX7_readLine_66 : decode cX7_readLine 66 = .ok (.aload_n 0, 1) := by decide +kernel
theorem dX7_readLine_67 : decode cX7_readLine 67 = .ok (.getfield 134, 3) := by decide +kernel
theorem dX7_readLine_70 : decode cX7_readLine 70 = .ok (.istore_n 3, 1) := by decide +kernel
theorem dX7_readLine_71 : decode cX7_readLine 71 = .ok (.aload_n 0, 1) := by decide +kernel
theorem dX7_readLine_72 : decode cX7_readLine 72 = .ok (.invokevirtual 179, 3) := by decide +kernel
theorem dX7_readLine_75 : decode cX7_readLine 75 = .ok (.aload_n 0, 1) := by decide +kernel
theorem dX7_readLine_76 : decode cX7_readLine 76 = .ok (.bipush 61, 2) := by decide +kernel
theorem dX7_readLine_78 : decode cX7_readLine 78 = .ok (.invokevirtual 176, 3) := by decide +kernel
theorem dX7_readLine_81 : decode cX7_readLine 81 = .ok (.ifCond .eq 12, 3) := by decide +kernel
theorem dX7_readLine_84 : decode cX7_readLine 84 = .ok (.aload_n 0, 1) := by decide +kernel
theorem dX7_readLine_85 : decode cX7_readLine 85 = .ok (.lload_n 1, 1) := by decide +kernel
theorem dX7_readLine_86 : decode cX7_readLine 86 = .ok (.iload_n 3, 1) := by decide +kernel
theorem dX7_readLine_87 : decode cX7_readLine 87 = .ok (.invokevirtual 230, 3) := by decide +kernel
theorem dX7_readLine_90 : decode cX7_readLine 90 = .ok (.goto 25, 3) := by decide +kernel
theorem dX7_readLine_93 : decode cX7_readLine 93 = .ok (.aload_n 0, 1) := by decide +kernel
theorem dX7_readLine_94 : decode cX7_readLine 94 = .ok (.bipush 60, 2) := by decide +kernel
theorem dX7_readLine_96 : decode cX7_readLine 96 = .ok (.invokevirtual 176, 3) := by decide +kernel
theorem dX7_readLine_99 : decode cX7_readLine 99 = .ok (.ifCond .eq 12, 3) := by decide +kernel
theorem dX7_readLine_102 : decode cX7_readLine 102 = .ok (.aload_n 0, 1) := by decide +kernel
theorem dX7_readLine_103 : decode cX7_readLine 103 = .ok (.lload_n 1, 1) := by decide +kernel
theorem dX7_readLine_104 : decode cX7_readLine 104 = .ok (.iload_n 3, 1) := by decide +kernel
theorem dX7_readLine_105 : decode cX7_readLine 105 = .ok (.invokevirtual 234, 3) := by decide +kernel
theorem dX7_readLine_108 : decode cX7_readLine 108 = .ok (.goto 7, 3) := by decide +kernel
theorem dX7_readLine_111 : decode cX7_readLine 111 = .ok (.aload_n 0, 1) := by decide +kernel
theorem dX7_readLine_112 : decode cX7_readLine 112 = .ok (.invokevirtual 182, 3) := by decide +kernel
theorem dX7_readLine_115 : decode cX7_readLine 115 = .ok (.goto 7, 3) := by decide +kernel
theorem dX7_readLine_118 : decode cX7_readLine 118 = .ok (.aload_n 0, 1) := by decide +kernel
theorem dX7_readLine_119 : decode cX7_readLine 119 = .ok (.invokevirtual 182, 3) := by decide +kernel
theorem dX7_readLine_122 : decode cX7_readLine 122 = .ok (.return_, 1) := by decide +kernel
set_option maxRecDepth 20000 in
theorem ggX7_resolve_X7_isGood : GoodIn wsX7_resolve wsX7_isGood := goodIn_r _ [18, 19, 35, 36, 37, 38, 39, 40, 41, 42, 43, 44, 45, 46, 47, 48, 49, 50, 51, 52, 53, 54, 55, 56, 57, 58, 59, 60, 61, 62, 63, 64, 65, 66, 67, 68, 69, 70, 71, 72, 73, 74, 75, 76, 77, 78, 79, 80, 81, 82, 83] (by decide +kernel) (by decide +kernel)
set_option maxRecDepth 20000 in
theorem gX7_resolve_X7_isGood : GoodIn wsX7_resolve (wsV RX7 191 RX7 yX7_isGood wsX7_isGood) := goodIn_app (goodIn_of _ (by decide +kernel)) ggX7_resolve_X7_isGood
set_option maxRecDepth 20000 in
theorem ggX7_resolve_X7_newOf : GoodIn wsX7_resolve wsX7_newOf := goodIn_r _ [23, 24, 25, 5, 35, 36, 37, 38, 39, 40, 41, 42, 43, 44, 45, 46, 47, 48, 49, 50, 51, 52, 53, 54, 55, 56, 57, 58, 59, 60, 61, 62, 63, 64, 65, 66, 67, 68, 69, 70, 71, 72, 73, 74, 75, 76, 77, 78, 79, 80, 81, 82, 83] (by decide +kernel) (by decide +kernel)
set_option maxRecDepth 20000 in
theorem gX7_resolve_X7_newOf : GoodIn wsX7_resolve (wsV RX7 195 RX7 yX7_newOf wsX7_newOf) := goodIn_app (goodIn_of _ (by decide +kernel)) ggX7_resolve_X7_newOf
set_option maxRecDepth 20000 in
theorem ggX7_resolve_X7_fails : GoodIn wsX7_resolve wsX7_fails := goodIn_r _ [29, 19, 30, 35, 36, 37, 38, 39, 40, 41, 42, 43, 44, 45, 46, 47, 48, 49, 50, 51, 52, 53, 54, 55, 56, 57, 58, 59, 60, 61, 62, 63, 64, 65, 66, 67, 68, 69, 70, 71, 72, 73, 74, 75, 76, 77, 78, 79, 80, 81, 82, 83] (by decide +kernel) (by decide +kernel)
set_option maxRecDepth 20000 in
theorem gX7_resolve_X7_fails : GoodIn wsX7_resolve (wsV RX7 172 RX7 yX7_fails wsX7_fails) := goodIn_app (goodIn_of _ (by decide +kernel)) ggX7_resolve_X7_fails
set_option maxRecDepth 20000 in
theorem ggX7_resolve_X7_isOfDriver : GoodIn wsX7_resolve wsX7_isOfDriver := goodIn_r _ [34, 8, 13, 35, 36, 37, 38, 39, 40, 41, 42, 43, 44, 45, 46, 47, 48, 49, 50, 51, 52, 53, 54, 55, 56, 57, 58, 59, 60, 61, 62, 63, 64, 65, 66, 67, 68, 69, 70, 71, 72, 73, 74, 75, 76, 77, 78, 79, 80, 81, 82, 83] (by decide +kernel) (by decide +kernel)
set_option maxRecDepth 20000 in
theorem gX7_resolve_X7_isOfDriver : GoodIn wsX7_resolve (wsV RX7 237 RX7 yX7_isOfDriver wsX7_isOfDriver) := goodIn_app (goodIn_of _ (by decide +kernel)) ggX7_resolve_X7_isOfDriver
theorem dX7_resolve_0 : decode cX7_resolve 0 = .ok (.iconst 0, 1) := by decide +kernel
theorem dX7_resolve_1 : decode cX7_resolve 1 = .ok (.istore_n 1, 1) := by decide +kernel
theorem dX7_resolve_2 : decode cX7_resolve 2 = .ok (.iload_n 1, 1) := by decide +kernel
theorem dX7_resolve_3 : decode cX7_resolve 3 = .ok (.aload_n 0, 1) := by decide +kernel
theorem dX7_resolve_4 : decode cX7_resolve 4 = .ok (.getfield 198, 3) := by decide +kernel
theorem dX7_resolve_7 : decode cX7_resolve 7 = .ok (.if_icmp .ge 70, 3) := by decide +kernel
theorem dX7_resolve_10 : decode cX7_resolve 10 = .ok (.aload_n 0, 1) := by decide +kernel
theorem dX7_resolve_11 : decode cX7_resolve 11 = .ok (.invokevirtual 191, 3) := by decide +kernel
theorem dX7_resolve_14 : decode cX7_resolve 14 = .ok (.ifCond .eq 63, 3) := by decide +kernel
theorem dX7_resolve_17 : decode cX7_resolve 17 = .ok (.aload_n 0, 1) := by decide +kernel
theorem dX7_resolve_18 : decode cX7_resolve 18 = .ok (.aload_n 0, 1) := by decide +kernel
theorem dX7_resolve_19 : decode cX7_resolve 19 = .ok (.getfield 50, 3) := by decide +kernel
theorem dX7_resolve_22 : decode cX7_resolve 22 = .ok (.iload_n 1, 1) := by decide +kernel
theorem dX7_resolve_23 : decode cX7_resolve 23 = .ok (.laload, 1) := by decide +kernel
theorem dX7_resolve_24 : decode cX7_resolve 24 = .ok (.invokevirtual 195, 3) := by decide +kernel
theorem dX7_resolve_27 : decode cX7_resolve 27 = .ok (.istore_n 2, 1) := by decide +kernel
theorem dX7_resolve_28 : decode cX7_resolve 28 = .ok (.iload_n 2, 1) := by decide +kernel
