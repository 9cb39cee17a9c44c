theorem dX7_flicker_124 : decode cX7_flicker 124 = .ok (.getfield 74, 3) := by decide +kernel
theorem dX7_flicker_127 : decode cX7_flicker 127 = .ok (.iload 4, 2) := by decide +kernel
theorem dX7_flicker_129 : decode cX7_flicker 129 = .ok (.iaload, 1) := by decide +kernel
theorem dX7_flicker_130 : decode cX7_flicker 130 = .ok (.iconst 1, 1) := by decide +kernel
theorem dX7_flicker_131 : decode cX7_flicker 131 = .ok (.if_icmp .gt 44, 3) := by decide +kernel
theorem dX7_flicker_134 : decode cX7_flicker 134 = .ok (.aload_n 0, 1) := by decide +kernel
theorem dX7_flicker_135 : decode cX7_flicker 135 = .ok (.getfield 74, 3) := by decide +kernel
theorem dX7_flicker_138 : decode cX7_flicker 138 = .ok (.iload 4, 2) := by decide +kernel
theorem dX7_flicker_140 : decode cX7_flicker 140 = .ok (.iaload, 1) := by decide +kernel
theorem dX7_flicker_141 : decode cX7_flicker 141 = .ok (.aload_n 0, 1) := by decide +kernel
theorem dX7_flicker_142 : decode cX7_flicker 142 = .ok (.getfield 80, 3) := by decide +kernel
theorem dX7_flicker_145 : decode cX7_flicker 145 = .ok (.iload 4, 2) := by decide +kernel
theorem dX7_flicker_147 : decode cX7_flicker 147 = .ok (.iaload, 1) := by decide +kernel
theorem dX7_flicker_148 : decode cX7_flicker 148 = .ok (.if_icmp .ne 27, 3) := by decide +kernel
theorem dX7_flicker_151 : decode cX7_flicker 151 = .ok (.aload_n 0, 1) := by decide +kernel
theorem dX7_flicker_152 : decode cX7_flicker 152 = .ok (.getfield 83, 3) := by decide +kernel
theorem dX7_flicker_155 : decode cX7_flicker 155 = .ok (.iload 4, 2) := by decide +kernel
theorem dX7_flicker_157 : decode cX7_flicker 157 = .ok (.iaload, 1) := by decide +kernel
theorem dX7_flicker_158 : decode cX7_flicker 158 = .ok (.iconst 2, 1) := by decide +kernel
theorem dX7_flicker_159 : decode cX7_flicker 159 = .ok (.if_icmp .eq 6, 3) := by decide +kernel
theorem dX7_flicker_162 : decode cX7_flicker 162 = .ok (.goto 13, 3) := by decide +kernel
theorem dX7_flicker_165 : decode cX7_flicker 165 = .ok (.iload_n 3, 1) := by decide +kernel
theorem dX7_flicker_166 : decode cX7_flicker 166 = .ok (.ifCond .ne 6, 3) := by decide +kernel
theorem dX7_flicker_169 : decode cX7_flicker 169 = .ok (.iload 4, 2) := by decide +kernel
theorem dX7_flicker_171 : decode cX7_flicker 171 = .ok (.ireturn, 1) := by decide +kernel
theorem dX7_flicker_172 : decode cX7_flicker 172 = .ok (.iinc 3 (-1), 3) := by decide +kernel
theorem dX7_flicker_175 : decode cX7_flicker 175 = .ok (.iinc 4 1, 3) := by decide +kernel
theorem dX7_flicker_178 : decode cX7_flicker 178 = .ok (.goto (-64), 3) := by decide +kernel
theorem dX7_flicker_181 : decode cX7_flicker 181 = .ok (.iconst (-1), 1) := by decide +kernel
theorem dX7_flicker_182 : decode cX7_flicker 182 = .ok (.ireturn, 1) := by decide +kernel
theorem dX7_wheel_0 : decode cX7_wheel 0 = .ok (.aload_n 0, 1) := by decide +kernel
theorem dX7_wheel_1 : decode cX7_wheel 1 = .ok (.iconst 1, 1) := by decide +kernel
theorem dX7_wheel_2 : decode cX7_wheel 2 = .ok (.putfield 267, 3) := by decide +kernel
theorem dX7_wheel_5 : decode cX7_wheel 5 = .ok (.aload_n 0, 1) := by decide +kernel
theorem dX7_wheel_6 : decode cX7_wheel 6 = .ok (.iconst 0, 1) := by decide +kernel
theorem dX7_wheel_7 : decode cX7_wheel 7 = .ok (.putfield 316, 3) := by decide +kernel
theorem dX7_wheel_10 : decode cX7_wheel 10 = .ok (.aload_n 0, 1) := by decide +kernel
theorem dX7_wheel_11 : decode cX7_wheel 11 = .ok (.iconst 0, 1) := by decide +kernel
theorem dX7_wheel_12 : decode cX7_wheel 12 = .ok (.putfield 319, 3) := by decide +kernel
theorem dX7_wheel_15 : decode cX7_wheel 15 = .ok (.iconst 0, 1) := by decide +kernel
theorem dX7_wheel_16 : decode cX7_wheel 16 = .ok (.istore_n 1, 1) := by decide +kernel
theorem dX7_wheel_17 : decode cX7_wheel 17 = .ok (.iload_n 1, 1) := by decide +kernel
theorem dX7_wheel_18 : decode cX7_wheel 18 = .ok (.aload_n 0, 1) := by decide +kernel
theorem dX7_wheel_19 : decode cX7_wheel 19 = .ok (.getfield 261, 3) := by decide +kernel
theorem dX7_wheel_22 : decode cX7_wheel 22 = .ok (.if_icmp .ge 73, 3) := by decide +kernel
theorem dX7_wheel_25 : decode cX7_wheel 25 = .ok (.aload_n 0, 1) := by decide +kernel
theorem dX7_wheel_26 : decode cX7_wheel 26 = .ok (.getfield 89, 3) := by decide +kernel
theorem dX7_wheel_29 : decode cX7_wheel 29 = .ok (.iload_n 1, 1) := by decide +kernel
theorem dX7_wheel_30 : decode cX7_wheel 30 = .ok (.aload_n 0, 1) := by decide +kernel
theorem dX7_wheel_31 : decode cX7_wheel 31 = .ok (.getfield 74, 3) := by decide +kernel
theorem dX7_wheel_34 : decode cX7_wheel 34 = .ok (.iload_n 1, 1) := by decide +kernel
theorem dX7_wheel_35 : decode cX7_wheel 35 = .ok (.iaload, 1) := by decide +kernel
theorem dX7_wheel_36 : decode cX7_wheel 36 = .ok (.iastore, 1) := by decide +kernel
theorem dX7_wheel_37 : decode cX7_wheel 37 = .ok (.aload_n 0, 1) := by decide +kernel
theorem dX7_wheel_38 : decode cX7_wheel 38 = .ok (.getfield 92, 3) := by decide +kernel
theorem dX7_wheel_41 : decode cX7_wheel 41 = .ok (.iload_n 1, 1) := by decide +kernel
theorem dX7_wheel_42 : decode cX7_wheel 42 = .ok (.aload_n 0, 1) := by decide +kernel
theorem dX7_wheel_43 : decode cX7_wheel 43 = .ok (.getfield 74, 3) := by decide +kernel
theorem dX7_wheel_46 : decode cX7_wheel 46 = .ok (.iload_n 1, 1) := by decide +kernel
theorem dX7_wheel_47 : decode cX7_wheel 47 = .ok (.iaload, 1) := by decide +kernel
theorem dX7_wheel_48 : decode cX7_wheel 48 = .ok (.iastore, 1) := by decide +kernel
theorem dX7_wheel_49 : decode cX7_wheel 49 = .ok (.aload_n 0, 1) := by decide +kernel
theorem dX7_wheel_50 : decode cX7_wheel 50 = .ok (.getfield 104, 3) := by decide +kernel
theorem dX7_wheel_53 : decode cX7_wheel 53 = .ok (.iload_n 1, 1) := by decide +kernel
theorem dX7_wheel_54 : decode cX7_wheel 54 = .ok (.iconst 0, 1) := by decide +kernel
theorem dX7_wheel_55 : decode cX7_wheel 55 = .ok (.bastore, 1) := by decide +kernel
theorem dX7_wheel_56 : decode cX7_wheel 56 = .ok (.aload_n 0, 1) := by decide +kernel
theorem dX7_wheel_57 : decode cX7_wheel 57 = .ok (.getfield 101, 3) := by decide +kernel
theorem dX7_wheel_60 : decode cX7_wheel 60 = .ok (.iload_n 1, 1) := by decide +kernel
theorem dX7_wheel_61 : decode cX7_wheel 61 = .ok (.iconst 0, 1) := by decide +kernel
theorem dX7_wheel_62 : decode cX7_wheel 62 = .ok (.iastore, 1) := by decide +kernel
theorem dX7_wheel_63 : decode cX7_wheel 63 = .ok (.iconst 0, 1) := by decide +kernel
theorem dX7_wheel_64 : decode cX7_wheel 64 = .ok (.istore_n 2, 1) := by decide +kernel
theorem dX7_wheel_65 : decode cX7_wheel 65 = .ok (.iload_n 2, 1) := by decide +kernel
theorem dX7_wheel_66 : decode cX7_wheel 66 = .ok (.bipush 10, 2) := by decide +kernel
theorem dX7_wheel_68 : decode cX7_wheel 68 = .ok (.if_icmp .ge 21, 3) := by decide +kernel
theorem dX7_wheel_71 : decode cX7_wheel 71 = .ok (.aload_n 0, 1) := by decide +kernel
theorem dX7_wheel_72 : decode cX7_wheel 72 = .ok (.getfield 95, 3) := by decide +kernel
theorem dX7_wheel_75 : decode cX7_wheel 75 = .ok (.bipush 10, 2) := by decide +kernel
theorem dX7_wheel_77 : decode cX7_wheel 77 = .ok (.iload_n 1, 1) := by decide +kernel
theorem dX7_wheel_78 : decode cX7_wheel 78 = .ok (.imul, 1) := by decide +kernel
theorem dX7_wheel_79 : decode cX7_wheel 79 = .ok (.iload_n 2, 1) := by decide +kernel
theorem dX7_wheel_80 : decode cX7_wheel 80 = .ok (.iadd, 1) := by decide +kernel
theorem dX7_wheel_81 : decode cX7_wheel 81 = .ok (.iconst (-1), 1) := by decide +kernel
theorem dX7_wheel_82 : decode cX7_wheel 82 = .ok (.iastore, 1) := by decide +kernel
theorem dX7_wheel_83 : decode cX7_wheel 83 = .ok (.iinc 2 1, 3) := by decide +kernel
theorem dX7_wheel_86 : decode cX7_wheel 86 = .ok (.goto (-21), 3) := by decide +kernel
theorem dX7_wheel_89 : decode cX7_wheel 89 = .ok (.iinc 1 1, 3) := by decide +kernel
theorem dX7_wheel_92 : decode cX7_wheel 92 = .ok (.goto (-75), 3) := by decide +kernel
theorem dX7_wheel_95 : decode cX7_wheel 95 = .ok (.iconst 1, 1) := by decide +kernel
theorem dX7_wheel_96 : decode cX7_wheel 96 = .ok (.ireturn, 1) := by decide +kernel
theorem dX7_change_0 : decode cX7_change 0 = .ok (.aload_n 0, 1) := by decide +kernel
theorem dX7_change_1 : decode cX7_change 1 = .ok (.getfield 89, 3) := by decide +kernel
theorem dX7_change_4 : decode cX7_change 4 = .ok (.iload_n 1, 1) := by decide +kernel
theorem dX7_change_5 : decode cX7_change 5 = .ok (.iload_n 2, 1) := by decide +kernel
theorem dX7_change_6 : decode cX7_change 6 = .ok (.iastore, 1) := by decide +kernel
theorem dX7_change_7 : decode cX7_change 7 = .ok (.aload_n 0, 1) := by decide +kernel
theorem dX7_change_8 : decode cX7_change 8 = .ok (.getfield 104, 3) := by decide +kernel
theorem dX7_change_11 : decode cX7_change 11 = .ok (.iload_n 1, 1) := by decide +kernel
theorem dX7_change_12 : decode cX7_change 12 = .ok (.iconst 1, 1) := by decide +kernel
theorem dX7_change_13 : decode cX7_change 13 = .ok (.bastore, 1) := by decide +kernel
theorem dX7_change_14 : decode cX7_change 14 = .ok (.aload_n 0, 1) := by decide +kernel
theorem dX7_change_15 : decode cX7_change 15 = .ok (.getfield 101, 3) := by decide +kernel
theorem dX7_change_18 : decode cX7_change 18 = .ok (.iload_n 1, 1) := by decide +kernel
theorem dX7_change_19 : decode cX7_change 19 = .ok (.iaload, 1) := by decide +kernel
theorem dX7_change_20 : decode cX7_change 20 = .ok (.bipush 20, 2) := by decide +kernel
theorem dX7_change_22 : decode cX7_change 22 = .ok (.if_icmp .ge 27, 3) := by decide +kernel
theorem dX7_change_25 : decode cX7_change 25 = .ok (.aload_n 0, 1) := by decide +kernel
theorem dX7_change_26 : decode cX7_change 26 = .ok (.getfield 98, 3) := by decide +kernel
theorem dX7_change_29 : decode cX7_change 29 = .ok (.bipush 20, 2) := by decide +kernel
theorem dX7_change_31 : decode cX7_change 31 = .ok (.iload_n 1, 1) := by decide +kernel
theorem dX7_change_32 : decode cX7_change 32 = .ok (.imul, 1) := by decide +kernel
theorem dX7_change_33 : decode cX7_change 33 = .ok (.aload_n 0, 1) := by decide +kernel
theorem dX7_change_34 : decode cX7_change 34 = .ok (.getfield 101, 3) := by decide +kernel
theorem dX7_change_37 : decode cX7_change 37 = .ok (.iload_n 1, 1) := by decide +kernel
theorem dX7_change_38 : decode cX7_change 38 = .ok (.iaload, 1) := by decide +kernel
theorem dX7_change_39 : decode cX7_change 39 = .ok (.iadd, 1) := by decide +kernel
theorem dX7_change_40 : decode cX7_change 40 = .ok (.iconst 4, 1) := by decide +kernel
theorem dX7_change_41 : decode cX7_change 41 = .ok (.aload_n 0, 1) := by decide +kernel
theorem dX7_change_42 : decode cX7_change 42 = .ok (.getfield 316, 3) := by decide +kernel
theorem dX7_change_45 : decode cX7_change 45 = .ok (.imul, 1) := by decide +kernel
theorem dX7_change_46 : decode cX7_change 46 = .ok (.iload_n 2, 1) := by decide +kernel
theorem dX7_change_47 : decode cX7_change 47 = .ok (.iadd, 1) := by decide +kernel
theorem dX7_change_48 : decode cX7_change 48 = .ok (.iastore, 1) := by decide +kernel
theorem dX7_change_49 : decode cX7_change 49 = .ok (.aload_n 0, 1) := by decide +kernel
theorem dX7_change_50 : decode cX7_change 50 = .ok (.getfield 101, 3) := by decide +kernel
theorem dX7_change_53 : decode cX7_change 53 = .ok (.iload_n 1, 1) := by decide +kernel
theorem dX7_change_54 : decode cX7_change 54 = .ok (.dup2, 1) := by decide +kernel
theorem dX7_change_55 : decode cX7_change 55 = .ok (.iaload, 1) := by decide +kernel
theorem dX7_change_56 : decode cX7_change 56 = .ok (.iconst 1, 1) := by decide +kernel
theorem dX7_change_57 : decode cX7_change 57 = .ok (.iadd, 1) := by decide +kernel
theorem dX7_change_58 : decode cX7_change 58 = .ok (.iastore, 1) := by decide +kernel
theorem dX7_change_59 : decode cX7_change 59 = .ok (.return_, 1) := by decide +kernel
set_option maxRecDepth 20000 in
theorem ggX7_put_X7_isNode : GoodIn wsX7_put wsX7_isNode := goodIn_r _ [7, 8, 23, 24, 25, 26, 27, 28, 29, 30, 31, 32, 33, 34, 35, 36, 37, 38, 39, 40, 41, 42, 43, 44, 45, 46, 47, 48, 49, 50, 51, 52, 53, 54, 55, 56, 57, 58, 59, 60, 61, 62, 63, 64, 65, 66, 67, 68, 69, 70, 71] (by decide +kernel) (by decide +kernel)
set_option maxRecDepth 20000 in
theorem gX7_put_X7_isNode : GoodIn wsX7_put (wsV RX7 301 RX7 yX7_isNode wsX7_isNode) := goodIn_app (goodIn_of _ (by decide +kernel)) ggX7_put_X7_isNode
set_option maxRecDepth 20000 in
theorem ggX7_put_X7_kind : GoodIn wsX7_put wsX7_kind := goodIn_r _ [12, 13, 14, 23, 24, 25, 26, 27, 28, 29, 30, 31, 32, 33, 34, 35, 36, 37, 38, 39, 40, 41, 42, 43, 44, 45, 46, 47, 48, 49, 50, 51, 52, 53, 54, 55, 56, 57, 58, 59, 60, 61, 62, 63, 64, 65, 66, 67, 68, 69, 70, 71] (by decide +kernel) (by decide +kernel)
set_option maxRecDepth 20000 in
theorem gX7_put_X7_kind : GoodIn wsX7_put (wsV RX7 271 RX7 yX7_kind wsX7_kind) := goodIn_app (goodIn_of _ (by decide +kernel)) ggX7_put_X7_kind
set_option maxRecDepth 20000 in
theorem ggX7_put_X7_change : GoodIn wsX7_put wsX7_change := goodIn_r _ [18, 2, 19, 20, 21, 22, 23, 24, 25, 26, 27, 28, 29, 30, 31, 32, 33, 34, 35, 36, 37, 38, 39, 40, 41, 42, 43, 44, 45, 46, 47, 48, 49, 50, 51, 52, 53, 54, 55, 56, 57, 58, 59, 60, 61, 62, 63, 64, 65, 66, 67, 68, 69, 70, 71] (by decide +kernel) (by decide +kernel)
set_option maxRecDepth 20000 in
theorem gX7_put_X7_change : GoodIn wsX7_put (wsV RX7 322 RX7 yX7_change wsX7_change) := goodIn_app (goodIn_of _ (by decide +kernel)) ggX7_put_X7_change
theorem dX7_put_0 : decode cX7_put 0 = .ok (.aload_n 0, 1) := by decide +kernel
theorem dX7_put_1 : decode cX7_put 1 = .ok (.getfield 267, 3) := by decide +kernel
theorem dX7_put_4 : decode cX7_put 4 = .ok (.ifCond .eq 28, 3) := by decide +kernel
theorem dX7_put_7 : decode cX7_put 7 = .ok (.aload_n 0, 1) := by decide +kernel
theorem dX7_put_8 : decode cX7_put 8 = .ok (.iload_n 1, 1) := by decide +kernel
theorem dX7_put_9 : decode cX7_put 9 = .ok (.invokevirtual 301, 3) := by decide +kernel
theorem dX7_put_12 : decode cX7_put 12 = .ok (.ifCond .eq 20, 3) := by decide +kernel
theorem dX7_put_15 : decode cX7_put 15 = .ok (.aload_n 0, 1) := by decide +kernel
theorem dX7_put_16 : decode cX7_put 16 = .ok (.iload_n 1, 1) := by decide +kernel
theorem dX7_put_17 : decode cX7_put 17 = .ok (.invokevirtual 271, 3) := by decide +kernel
theorem dX7_put_20 : decode cX7_put 20 = .ok (.ifCond .ne 12, 3) := by decide +kernel
theorem dX7_put_23 : decode cX7_put 23 = .ok (.iload_n 2, 1) := by decide +kernel
theorem dX7_put_24 : decode cX7_put 24 = .ok (.ifCond .lt 8, 3) := by decide +kernel
theorem dX7_put_27 : decode cX7_put 27 = .ok (.iload_n 2, 1) := by decide +kernel
theorem dX7_put_28 : decode cX7_put 28 = .ok (.iconst 3, 1) := by decide +kernel
theorem dX7_put_29 : decode cX7_put 29 = .ok (.if_icmp .le 5, 3) := by decide +kernel
theorem dX7_put_32 : decode cX7_put 32 = .ok (.iconst 0, 1) := by decide +kernel
theorem dX7_put_33 : decode cX7_put 33 = .ok (.ireturn, 1) := by decide +kernel
theorem dX7_put_34 : decode cX7_put 34 = .ok (.aload_n 0, 1) := by decide +kernel
theorem dX7_put_35 : decode cX7_put 35 = .ok (.getfield 89, 3) := by decide +kernel
theorem dX7_put_38 : decode cX7_put 38 = .ok (.iload_n 1, 1) := by decide +kernel
theorem dX7_put_39 : decode cX7_put 39 = .ok (.iaload, 1) := by decide +kernel
theorem dX7_put_40 : decode cX7_put 40 = .ok (.iload_n 2, 1) := by decide +kernel
theorem dX7_put_41 : decode cX7_put 41 = .ok (.if_icmp .eq 9, 3) := by decide +kernel
theorem dX7_put_44 : decode cX7_put 44 = .ok (.aload_n 0, 1) := by decide +kernel
theorem dX7_put_45 : decode cX7_put 45 = .ok (.iload_n 1, 1) := by decide +kernel
theorem dX7_put_46 : decode cX7_put 46 = .ok (.iload_n 2, 1) := by decide +kernel
theorem dX7_put_47 : decode cX7_put 47 = .ok (.invokevirtual 322, 3) := by decide +kernel
theorem dX7_put_50 : decode cX7_put 50 = .ok (.iconst 1, 1) := by decide +kernel
theorem dX7_put_51 : decode cX7_put 51 = .ok (.ireturn, 1) := by decide +kernel
set_option maxRecDepth 20000 in
theorem ggX7_looks_X7_kind : GoodIn wsX7_looks wsX7_kind := goodIn_r _ [15, 16, 3, 50, 51, 52, 53, 54, 55, 56, 57, 58, 59, 60, 61, 62, 63, 64, 65, 66, 67, 68, 69, 70, 71, 72, 73, 74, 75, 76, 77, 78, 79, 80, 81, 82, 83, 84, 85, 86, 87, 88, 89, 90, 91, 92, 93, 94, 95, 96, 97, 98] (by decide +kernel) (by decide +kernel)
set_option maxRecDepth 20000 in
theorem gX7_looks_X7_kind : GoodIn wsX7_looks (wsV RX7 271 RX7 yX7_kind wsX7_kind) := goodIn_app (goodIn_of _ (by decide +kernel)) ggX7_looks_X7_kind
set_option maxRecDepth 20000 in
theorem ggX7_looks_X7_bus : GoodIn wsX7_looks wsX7_bus := goodIn_r _ [20, 3, 21, 22, 23, 24, 25, 14, 26, 27, 28, 29, 30, 50, 51, 52, 53, 54, 55, 56, 57, 58, 59, 60, 61, 62, 63, 64, 65, 66, 67, 68, 69, 70, 71, 72, 73, 74, 75, 76, 77, 78, 79, 80, 81, 82, 83, 84, 85, 86, 87, 88, 89, 90, 91, 92, 93, 94, 95, 96, 97, 98] (by decide +kernel) (by decide +kernel)
set_option maxRecDepth 20000 in
theorem gX7_looks_X7_bus : GoodIn wsX7_looks (wsV RX7 288 RX7 yX7_bus wsX7_bus) := goodIn_app (goodIn_of _ (by decide +kernel)) ggX7_looks_X7_bus
set_option maxRecDepth 20000 in
theorem ggX7_looks_X7_hasChanged : GoodIn wsX7_looks wsX7_hasChanged := goodIn_r _ [34, 3, 10, 35, 36, 37, 14, 38, 16, 21, 23, 24, 25, 26, 27, 50, 51, 52, 53, 54, 55, 56, 57, 58, 59, 60, 61, 62, 63, 64, 65, 66, 67, 68, 69, 70, 71, 72, 73, 74, 75, 76, 77, 78, 79, 80, 81, 82, 83, 84, 85, 86, 87, 88, 89, 90, 91, 92, 93, 94, 95, 96, 97, 98] (by decide +kernel) (by decide +kernel)
set_option maxRecDepth 20000 in
theorem gX7_looks_X7_hasChanged : GoodIn wsX7_looks (wsV RX7 325 RX7 yX7_hasChanged wsX7_hasChanged) := goodIn_app (goodIn_of _ (by decide +kernel)) ggX7_looks_X7_hasChanged
set_option maxRecDepth 20000 in
theorem ggX7_looks_X7_change : GoodIn wsX7_looks wsX7_change := goodIn_r _ [42, 4, 10, 43, 44, 6, 50, 51, 52, 53, 54, 55, 56, 57, 58, 59, 60, 61, 62, 63, 64, 65, 66, 67, 68, 69, 70, 71, 72, 73, 74, 75, 76, 77, 78, 79, 80, 81, 82, 83, 84, 85, 86, 87, 88, 89, 90, 91, 92, 93, 94, 95, 96, 97, 98] (by decide +kernel) (by decide +kernel)
set_option maxRecDepth 20000 in
theorem gX7_looks_X7_change : GoodIn wsX7_looks (wsV RX7 322 RX7 yX7_change wsX7_change) := goodIn_app (goodIn_of _ (by decide +kernel)) ggX7_looks_X7_change
set_option maxRecDepth 20000 in
theorem ggX7_looks_X7_gate : GoodIn wsX7_looks wsX7_gate := goodIn_r _ [48, 3, 49, 21, 23, 24, 25, 14, 26, 27, 28, 29, 30, 50, 51, 52, 53, 54, 55, 56, 57, 58, 59, 60, 61, 62, 63, 64, 65, 66, 67, 68, 69, 70, 71, 72, 73, 74, 75, 76, 77, 78, 79, 80, 81, 82, 83, 84, 85, 86, 87, 88, 89, 90, 91, 92, 93, 94, 95, 96, 97, 98] (by decide +kernel) (by decide +kernel)
set_option maxRecDepth 20000 in
theorem gX7_looks_X7_gate : GoodIn wsX7_looks (wsV RX7 284 RX7 yX7_gate wsX7_gate) := goodIn_app (goodIn_of _ (by decide +kernel)) ggX7_looks_X7_gate
theorem dX7_looks_0 : decode cX7_looks 0 = .ok (.iconst 0, 1) := by decide +kernel
theorem dX7_looks_1 : decode cX7_looks 1 = .ok (.istore_n 1, 1) := by decide +kernel
theorem dX7_looks_2 : decode cX7_looks 2 = .ok (.iconst 0, 1) := by decide +kernel
theorem dX7_looks_3 : decode cX7_looks 3 = .ok (.istore_n 2, 1) := by decide +kernel
theorem dX7_looks_4 : decode cX7_looks 4 = .ok (.iload_n 2, 1) := by decide +kernel
theorem dX7_looks_5 : decode cX7_looks 5 = .ok (.aload_n 0, 1) := by decide +kernel
theorem dX7_looks_6 : decode cX7_looks 6 = .ok (.getfield 261, 3) := by decide +kernel
theorem dX7_looks_9 : decode cX7_looks 9 = .ok (.if_icmp .gt 98, 3) := by decide +kernel
theorem dX7_looks_12 : decode cX7_looks 12 = .ok (.iconst 0, 1) := by decide +kernel
theorem dX7_looks_13 : decode cX7_looks 13 = .ok (.istore_n 3, 1) := by decide +kernel
theorem dX7_looks_14 : decode cX7_looks 14 = .ok (.iload_n 3, 1) := by decide +kernel
theorem dX7_looks_15 : decode cX7_looks 15 = .ok (.aload_n 0, 1) := by decide +kernel
theorem dX7_looks_16 : decode cX7_looks 16 = .ok (.getfield 261, 3) := by decide +kernel
theorem dX7_looks_19 : decode cX7_looks 19 = .ok (.if_icmp .ge 82, 3) := by decide +kernel
theorem dX7_looks_22 : decode cX7_looks 22 = .ok (.aload_n 0, 1) := by decide +kernel
theorem dX7_looks_23 : decode cX7_looks 23 = .ok (.getfield 40, 3) := by decide +kernel
theorem dX7_looks_26 : decode cX7_looks 26 = .ok (.bipush 60, 2) := by decide +kernel
theorem dX7_looks_28 : decode cX7_looks 28 = .ok (.aload_n 0, 1) := by decide +kernel
theorem dX7_looks_29 : decode cX7_looks 29 = .ok (.getfield 188, 3) := by decide +kernel
theorem dX7_looks_32 : decode cX7_looks 32 = .ok (.imul, 1) := by decide +kernel
theorem dX7_looks_33 : decode cX7_looks 33 = .ok (.iload_n 3, 1) := by decide +kernel
theorem dX7_looks_34 : decode cX7_looks 34 = .ok (.iadd, 1) := by decide +kernel
theorem dX7_looks_35 : decode cX7_looks 35 = .ok (.iaload, 1) := by decide +kernel
theorem dX7_looks_36 : decode cX7_looks 36 = .ok (.iload_n 2, 1) := by decide +kernel
theorem dX7_looks_37 : decode cX7_looks 37 = .ok (.if_icmp .ne 58, 3) := by decide +kernel
theorem dX7_looks_40 : decode cX7_looks 40 = .ok (.aload_n 0, 1) := by decide +kernel
theorem dX7_looks_41 : decode cX7_looks 41 = .ok (.iload_n 3, 1) := by decide +kernel
theorem dX7_looks_42 : decode cX7_looks 42 = .ok (.invokevirtual 271, 3) := by decide +kernel
theorem dX7_looks_45 : decode cX7_looks 45 = .ok (.iconst 1, 1) := by decide +kernel
theorem dX7_looks_46 : decode cX7_looks 46 = .ok (.if_icmp .eq 6, 3) := by decide +kernel
theorem dX7_looks_49 : decode cX7_looks 49 = .ok (.goto 46, 3) := by decide +kernel
theorem dX7_looks_52 : decode cX7_looks 52 = .ok (.aload_n 0, 1) := by decide +kernel
theorem dX7_looks_53 : decode cX7_looks 53 = .ok (.iload_n 3, 1) := by decide +kernel
theorem dX7_looks_54 : decode cX7_looks 54 = .ok (.aload_n 0, 1) := by decide +kernel
theorem dX7_looks_55 : decode cX7_looks 55 = .ok (.getfield 89, 3) := by decide +kernel
theorem dX7_looks_58 : decode cX7_looks 58 = .ok (.invokevirtual 288, 3) := by decide +kernel
theorem dX7_looks_61 : decode cX7_looks 61 = .ok (.istore 4, 2) := by decide +kernel
theorem dX7_looks_63 : decode cX7_looks 63 = .ok (.iload 4, 2) := by decide +kernel
theorem dX7_looks_65 : decode cX7_looks 65 = .ok (.aload_n 0, 1) := by decide +kernel
theorem dX7_looks_66 : decode cX7_looks 66 = .ok (.getfield 89, 3) := by decide +kernel
theorem dX7_looks_69 : decode cX7_looks 69 = .ok (.iload_n 3, 1) := by decide +kernel
theorem dX7_looks_70 : decode cX7_looks 70 = .ok (.iaload, 1) := by decide +kernel
theorem dX7_looks_71 : decode cX7_looks 71 = .ok (.if_icmp .eq 24, 3) := by decide +kernel
theorem dX7_looks_74 : decode cX7_looks 74 = .ok (.aload_n 0, 1) := by decide +kernel
theorem dX7_looks_75 : decode cX7_looks 75 = .ok (.iload_n 3, 1) := by decide +kernel
theorem dX7_looks_76 : decode cX7_looks 76 = .ok (.invokevirtual 325, 3) := by decide +kernel
theorem dX7_looks_79 : decode cX7_looks 79 = .ok (.ifCond .ne 6, 3) := by decide +kernel
theorem dX7_looks_82 : decode cX7_looks 82 = .ok (.goto 13, 3) := by decide +kernel
theorem dX7_looks_85 : decode cX7_looks 85 = .ok (.aload_n 0, 1) := by decide +kernel
theorem dX7_looks_86 : decode cX7_looks 86 = .ok (.iload_n 3, 1) := by decide +kernel
theorem dX7_looks_87 : decode cX7_looks 87 = .ok (.iload 4, 2) := by decide +kernel
theorem dX7_looks_89 : decode cX7_looks 89 = .ok (.invokevirtual 322, 3) := by decide +kernel
theorem dX7_looks_92 : decode cX7_looks 92 = .ok (.iinc 1 1, 3) := by decide +kernel
theorem dX7_looks_95 : decode cX7_looks 95 = .ok (.iinc 3 1, 3) := by decide +kernel
theorem dX7_looks_98 : decode cX7_looks 98 = .ok (.goto (-84), 3) := by decide +kernel
theorem dX7_looks_101 : decode cX7_looks 101 = .ok (.iinc 2 1, 3) := by decide +kernel
theorem dX7_looks_104 : decode cX7_looks 104 = .ok (.goto (-100), 3) := by decide +kernel
theorem dX7_looks_107 : decode cX7_looks 107 = .ok (.iconst 0, 1) := by decide +kernel
theorem dX7_looks_108 : decode cX7_looks 108 = .ok (.istore_n 2, 1) := by decide +kernel
theorem dX7_looks_109 : decode cX7_looks 109 = .ok (.iload_n 2, 1) := by decide +kernel
theorem dX7_looks_110 : decode cX7_looks 110 = .ok (.aload_n 0, 1) := by decide +kernel
theorem dX7_looks_111 : decode cX7_looks 111 = .ok (.getfield 261, 3) := by decide +kernel
theorem dX7_looks_114 : decode cX7_looks 114 = .ok (.if_icmp .ge 120, 3) := by decide +kernel
theorem dX7_looks_117 : decode cX7_looks 117 = .ok (.aload_n 0, 1) := by decide +kernel
theorem dX7_looks_118 : decode cX7_looks 118 = .ok (.iload_n 2, 1) := by decide +kernel
theorem dX7_looks_119 : decode cX7_looks 119 = .ok (.invokevirtual 271, 3) := by decide +kernel
theorem dX7_looks_122 : decode cX7_looks 122 = .ok (.iconst 2, 1) := by decide +kernel
theorem dX7_looks_123 : decode cX7_looks 123 = .ok (.if_icmp .ne 105, 3) := by decide +kernel
theorem dX7_looks_126 : decode cX7_looks 126 = .ok (.aload_n 0, 1) := by decide +kernel
theorem dX7_looks_127 : decode cX7_looks 127 = .ok (.iload_n 2, 1) := by decide +kernel
theorem dX7_looks_128 : decode cX7_looks 128 = .ok (.invokevirtual 325, 3) := by decide +kernel
theorem dX7_looks_131 : decode cX7_looks 131 = .ok (.ifCond .ne 6, 3) := by decide +kernel
theorem dX7_looks_134 : decode cX7_looks 134 = .ok (.goto 94, 3) := by decide +kernel
theorem dX7_looks_137 : decode cX7_looks 137 = .ok (.aload_n 0, 1) := by decide +kernel
theorem dX7_looks_138 : decode cX7_looks 138 = .ok (.iload_n 2, 1) := by decide +kernel
theorem dX7_looks_139 : decode cX7_looks 139 = .ok (.aload_n 0, 1) := by decide +kernel
theorem dX7_looks_140 : decode cX7_looks 140 = .ok (.getfield 89, 3) := by decide +kernel
theorem dX7_looks_143 : decode cX7_looks 143 = .ok (.invokevirtual 284, 3) := by decide +kernel
theorem dX7_looks_146 : decode cX7_looks 146 = .ok (.istore_n 3, 1) := by decide +kernel
theorem dX7_looks_147 : decode cX7_looks 147 = .ok (.iload_n 3, 1) := by decide +kernel
theorem dX7_looks_148 : decode cX7_looks 148 = .ok (.aload_n 0, 1) := by decide +kernel
theorem dX7_looks_149 : decode cX7_looks 149 = .ok (.getfield 92, 3) := by decide +kernel
theorem dX7_looks_152 : decode cX7_looks 152 = .ok (.iload_n 2, 1) := by decide +kernel
theorem dX7_looks_153 : decode cX7_looks 153 = .ok (.iaload, 1) := by decide +kernel
theorem dX7_looks_154 : decode cX7_looks 154 = .ok (.if_icmp .ne 6, 3) := by decide +kernel
theorem dX7_looks_157 : decode cX7_looks 157 = .ok (.goto 71, 3) := by decide +kernel
theorem dX7_looks_160 : decode cX7_looks 160 = .ok (.aload_n 0, 1) := by decide +kernel
theorem dX7_looks_161 : decode cX7_looks 161 = .ok (.getfield 92, 3) := by decide +kernel
theorem dX7_looks_164 : decode cX7_looks 164 = .ok (.iload_n 2, 1) := by decide +kernel
theorem dX7_looks_165 : decode cX7_looks 165 = .ok (.iload_n 3, 1) := by decide +kernel
theorem dX7_looks_166 : decode cX7_looks 166 = .ok (.iastore, 1) := by decide +kernel
theorem dX7_looks_167 : decode cX7_looks 167 = .ok (.bipush 10, 2) := by decide +kernel
theorem dX7_looks_169 : decode cX7_looks 169 = .ok (.iload_n 2, 1) := by decide +kernel
theorem dX7_looks_170 : decode cX7_looks 170 = .ok (.imul, 1) := by decide +kernel
theorem dX7_looks_171 : decode cX7_looks 171 = .ok (.aload_n 0, 1) := by decide +kernel
theorem dX7_looks_172 : decode cX7_looks 172 = .ok (.getfield 316, 3) := by decide +kernel
theorem dX7_looks_175 : decode cX7_looks 175 = .ok (.aload_n 0, 1) := by decide +kernel
theorem dX7_looks_176 : decode cX7_looks 176 = .ok (.getfield 34, 3) := by decide +kernel
theorem dX7_looks_179 : decode cX7_looks 179 = .ok (.bipush 60, 2) := by decide +kernel
theorem dX7_looks_181 : decode cX7_looks 181 = .ok (.aload_n 0, 1) := by decide +kernel
theorem dX7_looks_182 : decode cX7_looks 182 = .ok (.getfield 188, 3) := by decide +kernel
theorem dX7_looks_185 : decode cX7_looks 185 = .ok (.imul, 1) := by decide +kernel
theorem dX7_looks_186 : decode cX7_looks 186 = .ok (.iload_n 2, 1) := by decide +kernel
theorem dX7_looks_187 : decode cX7_looks 187 = .ok (.iadd, 1) := by decide +kernel
theorem dX7_looks_188 : decode cX7_looks 188 = .ok (.iaload, 1) := by decide +kernel
theorem dX7_looks_189 : decode cX7_looks 189 = .ok (.iadd, 1) := by decide +kernel
theorem dX7_looks_190 : decode cX7_looks 190 = .ok (.bipush 10, 2) := by decide +kernel
theorem dX7_looks_192 : decode cX7_looks 192 = .ok (.irem, 1) := by decide +kernel
theorem dX7_looks_193 : decode cX7_looks 193 = .ok (.iadd, 1) := by decide +kernel
theorem dX7_looks_194 : decode cX7_looks 194 = .ok (.istore 4, 2) := by decide +kernel
theorem dX7_looks_196 : decode cX7_looks 196 = .ok (.aload_n 0, 1) := by decide +kernel
theorem dX7_looks_197 : decode cX7_looks 197 = .ok (.dup, 1) := by decide +kernel
theorem dX7_looks_198 : decode cX7_looks 198 = .ok (.getfield 319, 3) := by decide +kernel
theorem dX7_looks_201 : decode cX7_looks 201 = .ok (.aload_n 0, 1) := by decide +kernel
theorem dX7_looks_202 : decode cX7_looks 202 = .ok (.getfield 95, 3) := by decide +kernel
theorem dX7_looks_205 : decode cX7_looks 205 = .ok (.iload 4, 2) := by decide +kernel
theorem dX7_looks_207 : decode cX7_looks 207 = .ok (.iaload, 1) := by decide +kernel
theorem dX7_looks_208 : decode cX7_looks 208 = .ok (.ifCond .ge 7, 3) := by decide +kernel
theorem dX7_looks_211 : decode cX7_looks 211 = .ok (.iconst 1, 1) := by decide +kernel
theorem dX7_looks_212 : decode cX7_looks 212 = .ok (.goto 4, 3) := by decide +kernel
theorem dX7_looks_215 : decode cX7_looks 215 = .ok (.iconst 0, 1) := by decide +kernel
theorem dX7_looks_216 : decode cX7_looks 216 = .ok (.iadd, 1) := by decide +kernel
theorem dX7_looks_217 : decode cX7_looks 217 = .ok (.putfield 319, 3) := by decide +kernel
theorem dX7_looks_220 : decode cX7_looks 220 = .ok (.aload_n 0, 1) := by decide +kernel
theorem dX7_looks_221 : decode cX7_looks 221 = .ok (.getfield 95, 3) := by decide +kernel
theorem dX7_looks_224 : decode cX7_looks 224 = .ok (.iload 4, 2) := by decide +kernel
theorem dX7_looks_226 : decode cX7_looks 226 = .ok (.iload_n 3, 1) := by decide +kernel
theorem dX7_looks_227 : decode cX7_looks 227 = .ok (.iastore, 1) := by decide +kernel
theorem dX7_looks_228 : decode cX7_looks 228 = .ok (.iinc 2 1, 3) := by decide +kernel
theorem dX7_looks_231 : decode cX7_looks 231 = .ok (.goto (-122), 3) := by decide +kernel
theorem dX7_looks_234 : decode cX7_looks 234 = .ok (.iconst 0, 1) := by decide +kernel
theorem dX7_looks_235 : decode cX7_looks 235 = .ok (.istore_n 2, 1) := by decide +kernel
theorem dX7_looks_236 : decode cX7_looks 236 = .ok (.iload_n 2, 1) := by decide +kernel
theorem dX7_looks_237 : decode cX7_looks 237 = .ok (.aload_n 0, 1) := by decide +kernel
theorem dX7_looks_238 : decode cX7_looks 238 = .ok (.getfield 261, 3) := by decide +kernel
theorem dX7_looks_241 : decode cX7_looks 241 = .ok (.if_icmp .ge 16, 3) := by decide +kernel
theorem dX7_looks_244 : decode cX7_looks 244 = .ok (.aload_n 0, 1) := by decide +kernel
theorem dX7_looks_245 : decode cX7_looks 245 = .ok (.getfield 104, 3) := by decide +kernel
theorem dX7_looks_248 : decode cX7_looks 248 = .ok (.iload_n 2, 1) := by decide +kernel
theorem dX7_looks_249 : decode cX7_looks 249 = .ok (.iconst 0, 1) := by decide +kernel
theorem dX7_looks_250 : decode cX7_looks 250 = .ok (.bastore, 1) := by decide +kernel
theorem dX7_looks_251 : decode cX7_looks 251 = .ok (.iinc 2 1, 3) := by decide +kernel
theorem dX7_looks_254 : decode cX7_looks 254 = .ok (.goto (-18), 3) := by decide +kernel
theorem dX7_looks_257 : decode cX7_looks 257 = .ok (.iload_n 1, 1) := by decide +kernel
theorem dX7_looks_258 : decode cX7_looks 258 = .ok (.ireturn, 1) := by decide +kernel
set_option maxRecDepth 20000 in
theorem ggX7_hasChanged_X7_hangs : GoodIn wsX7_hasChanged wsX7_hangs := goodIn_r _ [7, 8, 9, 15, 16, 17, 18, 19, 20, 21, 22, 23, 24, 25, 26, 27, 28, 29, 30, 31, 32, 33, 34, 35, 36, 37, 38, 39, 40, 41, 42, 43, 44, 45, 46, 47, 48, 49, 50, 51, 52, 53, 54, 55, 56, 57, 58, 59, 60, 61, 62, 63] (by decide +kernel) (by decide +kernel)
set_option maxRecDepth 20000 in
theorem gX7_hasChanged_X7_hangs : GoodIn wsX7_hasChanged (wsV RX7 240 RX7 yX7_hangs wsX7_hangs) := goodIn_app (goodIn_of _ (by decide +kernel)) ggX7_hasChanged_X7_hangs
set_option maxRecDepth 20000 in
theorem ggX7_hasChanged_X7_in : GoodIn wsX7_hasChanged wsX7_in := goodIn_r _ [13, 14, 1, 15, 16, 17, 18, 19, 20, 21, 22, 23, 24, 25, 26, 27, 28, 29, 30, 31, 32, 33, 34, 35, 36, 37, 38, 39, 40, 41, 42, 43, 44, 45, 46, 47, 48, 49, 50, 51, 52, 53, 54, 55, 56, 57, 58, 59, 60, 61, 62, 63] (by decide +kernel) (by decide +kernel)
set_option maxRecDepth 20000 in
theorem gX7_hasChanged_X7_in : GoodIn wsX7_hasChanged (wsV RX7 277 RX7 yX7_in wsX7_in) := goodIn_app (goodIn_of _ (by decide +kernel)) ggX7_hasChanged_X7_in
theorem dX7_hasChanged_0 : decode cX7_hasChanged 0 = .ok (.iconst 0, 1) := by decide +kernel
theorem dX7_hasChanged_1 : decode cX7_hasChanged 1 = .ok (.istore_n 2, 1) := by decide +kernel
theorem dX7_hasChanged_2 : decode cX7_hasChanged 2 = .ok (.iconst 0, 1) := by decide +kernel
theorem dX7_hasChanged_3 : decode cX7_hasChanged 3 = .ok (.istore_n 3, 1) := by decide +kernel
theorem dX7_hasChanged_4 : decode cX7_hasChanged 4 = .ok (.iload_n 3, 1) := by decide +kernel
theorem dX7_hasChanged_5 : decode cX7_hasChanged 5 = .ok (.aload_n 0, 1) := by decide +kernel
theorem dX7_hasChanged_6 : decode cX7_hasChanged 6 = .ok (.bipush 60, 2) := by decide +kernel
theorem dX7_hasChanged_8 : decode cX7_hasChanged 8 = .ok (.aload_n 0, 1) := by decide +kernel
theorem dX7_hasChanged_9 : decode cX7_hasChanged 9 = .ok (.getfield 188, 3) := by decide +kernel
theorem dX7_hasChanged_12 : decode cX7_hasChanged 12 = .ok (.imul, 1) := by decide +kernel
theorem dX7_hasChanged_13 : decode cX7_hasChanged 13 = .ok (.iload_n 1, 1) := by decide +kernel
theorem dX7_hasChanged_14 : decode cX7_hasChanged 14 = .ok (.iadd, 1) := by decide +kernel
theorem dX7_hasChanged_15 : decode cX7_hasChanged 15 = .ok (.invokevirtual 240, 3) := by decide +kernel
theorem dX7_hasChanged_18 : decode cX7_hasChanged 18 = .ok (.if_icmp .ge 33, 3) := by decide +kernel
theorem dX7_hasChanged_21 : decode cX7_hasChanged 21 = .ok (.iload_n 2, 1) := by decide +kernel
theorem dX7_hasChanged_22 : decode cX7_hasChanged 22 = .ok (.ifCond .ne 17, 3) := by decide +kernel
theorem dX7_hasChanged_25 : decode cX7_hasChanged 25 = .ok (.aload_n 0, 1) := by decide +kernel
theorem dX7_hasChanged_26 : decode cX7_hasChanged 26 = .ok (.getfield 104, 3) := by decide +kernel
theorem dX7_hasChanged_29 : decode cX7_hasChanged 29 = .ok (.aload_n 0, 1) := by decide +kernel
theorem dX7_hasChanged_30 : decode cX7_hasChanged 30 = .ok (.iload_n 1, 1) := by decide +kernel
theorem dX7_hasChanged_31 : decode cX7_hasChanged 31 = .ok (.iload_n 3, 1) := by decide +kernel
theorem dX7_hasChanged_32 : decode cX7_hasChanged 32 = .ok (.invokevirtual 277, 3) := by decide +kernel
theorem dX7_hasChanged_35 : decode cX7_hasChanged 35 = .ok (.baload, 1) := by decide +kernel
theorem dX7_hasChanged_36 : decode cX7_hasChanged 36 = .ok (.ifCond .eq 7, 3) := by decide +kernel
theorem dX7_hasChanged_39 : decode cX7_hasChanged 39 = .ok (.iconst 1, 1) := by decide +kernel
theorem dX7_hasChanged_40 : decode cX7_hasChanged 40 = .ok (.goto 4, 3) := by decide +kernel
theorem dX7_hasChanged_43 : decode cX7_hasChanged 43 = .ok (.iconst 0, 1) := by decide +kernel
theorem dX7_hasChanged_44 : decode cX7_hasChanged 44 = .ok (.istore_n 2, 1) := by decide +kernel
theorem dX7_hasChanged_45 : decode cX7_hasChanged 45 = .ok (.iinc 3 1, 3) := by decide +kernel
theorem dX7_hasChanged_48 : decode cX7_hasChanged 48 = .ok (.goto (-44), 3) := by decide +kernel
theorem dX7_hasChanged_51 : decode cX7_hasChanged 51 = .ok (.iload_n 2, 1) := by decide +kernel
theorem dX7_hasChanged_52 : decode cX7_hasChanged 52 = .ok (.ireturn, 1) := by decide +kernel
set_option maxRecDepth 20000 in
theorem ggX7_run_X7_looks : GoodIn wsX7_run wsX7_looks := goodIn_r _ [11, 3, 12, 13, 6, 14, 2, 15, 5, 4, 16, 17, 18, 19, 10, 20, 21, 22, 23, 24, 25, 26, 27, 28, 29, 30, 31, 32, 33, 34, 35, 36, 37, 38, 39, 40, 41, 42, 43, 44, 45, 46, 47, 48, 49, 50, 51, 52, 53, 54, 55, 56, 57, 58, 59, 60, 61, 62, 63, 64, 65, 66, 67, 68, 69, 70, 71, 72, 73, 74, 75, 76, 77, 78, 79, 80, 81, 82, 83, 84, 85, 86, 87, 88, 89, 90, 91, 92, 93, 94, 95, 96, 97, 98, 99, 100, 101, 102, 103] (by decide +kernel) (by decide +kernel)
set_option maxRecDepth 20000 in
theorem gX7_run_X7_looks : GoodIn wsX7_run (wsV RX7 328 RX7 yX7_looks wsX7_looks) := goodIn_app (goodIn_of _ (by decide +kernel)) ggX7_run_X7_looks
set_option maxRecDepth 20000 in
theorem ggX7_run_X7_change : GoodIn wsX7_run wsX7_change := goodIn_r _ [47, 6, 16, 48, 49, 2, 55, 56, 57, 58, 59, 60, 61, 62, 63, 64, 65, 66, 67, 68, 69, 70, 71, 72, 73, 74, 75, 76, 77, 78, 79, 80, 81, 82, 83, 84, 85, 86, 87, 88, 89, 90, 91, 92, 93, 94, 95, 96, 97, 98, 99, 100, 101, 102, 103] (by decide +kernel) (by decide +kernel)
set_option maxRecDepth 20000 in
theorem gX7_run_X7_change : GoodIn wsX7_run (wsV RX7 322 RX7 yX7_change wsX7_change) := goodIn_app (goodIn_of _ (by decide +kernel)) ggX7_run_X7_change
theorem dX7_run_0 : decode cX7_run 0 = .ok (.aload_n 0, 1) := by decide +kernel
theorem dX7_run_1 : decode cX7_run 1 = .ok (.getfield 267, 3) := by decide +kernel
theorem dX7_run_4 : decode cX7_run 4 = .ok (.ifCond .eq 14, 3) := by decide +kernel
theorem dX7_run_7 : decode cX7_run 7 = .ok (.iload_n 1, 1) := by decide +kernel
theorem dX7_run_8 : decode cX7_run 8 = .ok (.ifCond .lt 10, 3) := by decide +kernel
theorem dX7_run_11 : decode cX7_run 11 = .ok (.iload_n 1, 1) := by decide +kernel
theorem dX7_run_12 : decode cX7_run 12 = .ok (.sipush 1000, 3) := by decide +kernel
theorem dX7_run_15 : decode cX7_run 15 = .ok (.if_icmp .le 5, 3) := by decide +kernel
theorem dX7_run_18 : decode cX7_run 18 = .ok (.iconst (-1), 1) := by decide +kernel
theorem dX7_run_19 : decode cX7_run 19 = .ok (.ireturn, 1) := by decide +kernel
theorem dX7_run_20 : decode cX7_run 20 = .ok (.aload_n 0, 1) := by decide +kernel
theorem dX7_run_21 : decode cX7_run 21 = .ok (.invokevirtual 328, 3) := by decide +kernel
theorem dX7_run_24 : decode cX7_run 24 = .ok (.istore_n 2, 1) := by decide +kernel
theorem dX7_run_25 : decode cX7_run 25 = .ok (.iconst 0, 1) := by decide +kernel
theorem dX7_run_26 : decode cX7_run 26 = .ok (.istore_n 3, 1) := by decide +kernel
theorem dX7_run_27 : decode cX7_run 27 = .ok (.iload_n 3, 1) := by decide +kernel
theorem dX7_run_28 : decode cX7_run 28 = .ok (.iload_n 1, 1) := by decide +kernel
theorem dX7_run_29 : decode cX7_run 29 = .ok (.if_icmp .ge 125, 3) := by decide +kernel
theorem dX7_run_32 : decode cX7_run 32 = .ok (.aload_n 0, 1) := by decide +kernel
theorem dX7_run_33 : decode cX7_run 33 = .ok (.dup, 1) := by decide +kernel
theorem dX7_run_34 : decode cX7_run 34 = .ok (.getfield 316, 3) := by decide +kernel
theorem dX7_run_37 : decode cX7_run 37 = .ok (.iconst 1, 1) := by decide +kernel
theorem dX7_run_38 : decode cX7_run 38 = .ok (.iadd, 1) := by decide +kernel
theorem dX7_run_39 : decode cX7_run 39 = .ok (.putfield 316, 3) := by decide +kernel
theorem dX7_run_42 : decode cX7_run 42 = .ok (.iconst 0, 1) := by decide +kernel
theorem dX7_run_43 : decode cX7_run 43 = .ok (.istore 4, 2) := by decide +kernel
theorem dX7_run_45 : decode cX7_run 45 = .ok (.iload 4, 2) := by decide +kernel
theorem dX7_run_47 : decode cX7_run 47 = .ok (.aload_n 0, 1) := by decide +kernel
theorem dX7_run_48 : decode cX7_run 48 = .ok (.getfield 261, 3) := by decide +kernel
theorem dX7_run_51 : decode cX7_run 51 = .ok (.if_icmp .ge 90, 3) := by decide +kernel
theorem dX7_run_54 : decode cX7_run 54 = .ok (.bipush 10, 2) := by decide +kernel
theorem dX7_run_56 : decode cX7_run 56 = .ok (.iload 4, 2) := by decide +kernel
theorem dX7_run_58 : decode cX7_run 58 = .ok (.imul, 1) := by decide +kernel
theorem dX7_run_59 : decode cX7_run 59 = .ok (.aload_n 0, 1) := by decide +kernel
theorem dX7_run_60 : decode cX7_run 60 = .ok (.getfield 316, 3) := by decide +kernel
theorem dX7_run_63 : decode cX7_run 63 = .ok (.bipush 10, 2) := by decide +kernel
theorem dX7_run_65 : decode cX7_run 65 = .ok (.irem, 1) := by decide +kernel
theorem dX7_run_66 : decode cX7_run 66 = .ok (.iadd, 1) := by decide +kernel
theorem dX7_run_67 : decode cX7_run 67 = .ok (.istore 5, 2) := by decide +kernel
theorem dX7_run_69 : decode cX7_run 69 = .ok (.aload_n 0, 1) := by decide +kernel
theorem dX7_run_70 : decode cX7_run 70 = .ok (.getfield 95, 3) := by decide +kernel
theorem dX7_run_73 : decode cX7_run 73 = .ok (.iload 5, 2) := by decide +kernel
theorem dX7_run_75 : decode cX7_run 75 = .ok (.iaload, 1) := by decide +kernel
theorem dX7_run_76 : decode cX7_run 76 = .ok (.ifCond .ge 6, 3) := by decide +kernel
theorem dX7_run_79 : decode cX7_run 79 = .ok (.goto 56, 3) := by decide +kernel
theorem dX7_run_82 : decode cX7_run 82 = .ok (.aload_n 0, 1) := by decide +kernel
theorem dX7_run_83 : decode cX7_run 83 = .ok (.getfield 95, 3) := by decide +kernel
theorem dX7_run_86 : decode cX7_run 86 = .ok (.iload 5, 2) := by decide +kernel
theorem dX7_run_88 : decode cX7_run 88 = .ok (.iaload, 1) := by decide +kernel
theorem dX7_run_89 : decode cX7_run 89 = .ok (.istore 6, 2) := by decide +kernel
theorem dX7_run_91 : decode cX7_run 91 = .ok (.aload_n 0, 1) := by decide +kernel
theorem dX7_run_92 : decode cX7_run 92 = .ok (.getfield 95, 3) := by decide +kernel
theorem dX7_run_95 : decode cX7_run 95 = .ok (.iload 5, 2) := by decide +kernel
theorem dX7_run_97 : decode cX7_run 97 = .ok (.iconst (-1), 1) := by decide +kernel
theorem dX7_run_98 : decode cX7_run 98 = .ok (.iastore, 1) := by decide +kernel
theorem dX7_run_99 : decode cX7_run 99 = .ok (.aload_n 0, 1) := by decide +kernel
theorem dX7_run_100 : decode cX7_run 100 = .ok (.dup, 1) := by decide +kernel
theorem dX7_run_101 : decode cX7_run 101 = .ok (.getfield 319, 3) := by decide +kernel
theorem dX7_run_104 : decode cX7_run 104 = .ok (.iconst 1, 1) := by decide +kernel
theorem dX7_run_105 : decode cX7_run 105 = .ok (.isub, 1) := by decide +kernel
theorem dX7_run_106 : decode cX7_run 106 = .ok (.putfield 319, 3) := by decide +kernel
theorem dX7_run_109 : decode cX7_run 109 = .ok (.iload 6, 2) := by decide +kernel
theorem dX7_run_111 : decode cX7_run 111 = .ok (.aload_n 0, 1) := by decide +kernel
theorem dX7_run_112 : decode cX7_run 112 = .ok (.getfield 89, 3) := by decide +kernel
theorem dX7_run_115 : decode cX7_run 115 = .ok (.iload 4, 2) := by decide +kernel
theorem dX7_run_117 : decode cX7_run 117 = .ok (.iaload, 1) := by decide +kernel
theorem dX7_run_118 : decode cX7_run 118 = .ok (.if_icmp .ne 6, 3) := by decide +kernel
theorem dX7_run_121 : decode cX7_run 121 = .ok (.goto 14, 3) := by decide +kernel
theorem dX7_run_124 : decode cX7_run 124 = .ok (.aload_n 0, 1) := by decide +kernel
theorem dX7_run_125 : decode cX7_run 125 = .ok (.iload 4, 2) := by decide +kernel
theorem dX7_run_127 : decode cX7_run 127 = .ok (.iload 6, 2) := by decide +kernel
theorem dX7_run_129 : decode cX7_run 129 = .ok (.invokevirtual 322, 3) := by decide +kernel
theorem dX7_run_132 : decode cX7_run 132 = .ok (.iinc 2 1, 3) := by decide +kernel
theorem dX7_run_135 : decode cX7_run 135 = .ok (.iinc 4 1, 3) := by decide +kernel
theorem dX7_run_138 : decode cX7_run 138 = .ok (.goto (-93), 3) := by decide +kernel
theorem dX7_run_141 : decode cX7_run 141 = .ok (.iload_n 2, 1) := by decide +kernel
theorem dX7_run_142 : decode cX7_run 142 = .ok (.aload_n 0, 1) := by decide +kernel
theorem dX7_run_143 : decode cX7_run 143 = .ok (.invokevirtual 328, 3) := by decide +kernel
theorem dX7_run_146 : decode cX7_run 146 = .ok (.iadd, 1) := by decide +kernel
theorem dX7_run_147 : decode cX7_run 147 = .ok (.istore_n 2, 1) := by decide +kernel
theorem dX7_run_148 : decode cX7_run 148 = .ok (.iinc 3 1, 3) := by decide +kernel
theorem dX7_run_151 : decode cX7_run 151 = .ok (.goto (-124), 3) := by decide +kernel
theorem dX7_run_154 : decode cX7_run 154 = .ok (.iload_n 2, 1) := by decide +kernel
theorem dX7_run_155 : decode cX7_run 155 = .ok (.ireturn, 1) := by decide +kernel
set_option maxRecDepth 20000 in
theorem ggX7_on_X7_isNode : GoodIn wsX7_on wsX7_isNode := goodIn_r _ [7, 8, 9, 10, 11, 12, 13, 14, 15, 16, 17, 18, 19, 20, 21, 22, 23, 24, 25, 26, 27, 28, 29, 30, 31, 32, 33, 34, 35, 36, 37, 38, 39, 40, 41, 42, 43, 44, 45, 46, 47, 48, 49, 50, 51, 52, 53, 54, 55, 56, 57] (by decide +kernel) (by decide +kernel)
set_option maxRecDepth 20000 in
theorem gX7_on_X7_isNode : GoodIn wsX7_on (wsV RX7 301 RX7 yX7_isNode wsX7_isNode) := goodIn_app (goodIn_of _ (by decide +kernel)) ggX7_on_X7_isNode
theorem dX7_on_0 : decode cX7_on 0 = .ok (.aload_n 0, 1) := by decide +kernel
theorem dX7_on_1 : decode cX7_on 1 = .ok (.getfield 267, 3) := by decide +kernel
theorem dX7_on_4 : decode cX7_on 4 = .ok (.ifCond .eq 11, 3) := by decide +kernel
theorem dX7_on_7 : decode cX7_on 7 = .ok (.aload_n 0, 1) := by decide +kernel
theorem dX7_on_8 : decode cX7_on 8 = .ok (.iload_n 1, 1) := by decide +kernel
theorem dX7_on_9 : decode cX7_on 9 = .ok (.invokevirtual 301, 3) := by decide +kernel
theorem dX7_on_12 : decode cX7_on 12 = .ok (.ifCond .ne 7, 3) := by decide +kernel
theorem dX7_on_15 : decode cX7_on 15 = .ok (.iconst (-1), 1) := by decide +kernel
theorem dX7_on_16 : decode cX7_on 16 = .ok (.goto 9, 3) := by decide +kernel
theorem dX7_on_19 : decode cX7_on 19 = .ok (.aload_n 0, 1) := by decide +kernel
theorem dX7_on_20 : decode cX7_on 20 = .ok (.getfield 89, 3) := by decide +kernel
theorem dX7_on_23 : decode cX7_on 23 = .ok (.iload_n 1, 1) := by decide +kernel
theorem dX7_on_24 : decode cX7_on 24 = .ok (.iaload, 1) := by decide +kernel
theorem dX7_on_25 : decode cX7_on 25 = .ok (.ireturn, 1) := by decide +kernel
set_option maxRecDepth 20000 in
theorem ggX7_wave_X7_isNode : GoodIn wsX7_wave wsX7_isNode := goodIn_r _ [8, 9, 10, 11, 12, 13, 14, 15, 16, 17, 18, 19, 20, 21, 22, 23, 24, 25, 26, 27, 28, 29, 30, 31, 32, 33, 34, 35, 36, 37, 38, 39, 40, 41, 42, 43, 44, 45, 46, 47, 48, 49, 50, 51, 52, 53, 54, 55, 56, 57, 58] (by decide +kernel) (by decide +kernel)
set_option maxRecDepth 20000 in
theorem gX7_wave_X7_isNode : GoodIn wsX7_wave (wsV RX7 301 RX7 yX7_isNode wsX7_isNode) := goodIn_app (goodIn_of _ (by decide +kernel)) ggX7_wave_X7_isNode
theorem dX7_wave_0 : decode cX7_wave 0 = .ok (.aload_n 0, 1) := by decide +kernel
theorem dX7_wave_1 : decode cX7_wave 1 = .ok (.getfield 267, 3) := by decide +kernel
theorem dX7_wave_4 : decode cX7_wave 4 = .ok (.ifCond .eq 31, 3) := by decide +kernel
theorem dX7_wave_7 : decode cX7_wave 7 = .ok (.aload_n 0, 1) := by decide +kernel
theorem dX7_wave_8 : decode cX7_wave 8 = .ok (.iload_n 1, 1) := by decide +kernel
theorem dX7_wave_9 : decode cX7_wave 9 = .ok (.invokevirtual 301, 3) := by decide +kernel
theorem dX7_wave_12 : decode cX7_wave 12 = .ok (.ifCond .eq 23, 3) := by decide +kernel
theorem dX7_wave_15 : decode cX7_wave 15 = .ok (.iload_n 2, 1) := by decide +kernel
theorem dX7_wave_16 : decode cX7_wave 16 = .ok (.ifCond .lt 19, 3) := by decide +kernel
theorem dX7_wave_19 : decode cX7_wave 19 = .ok (.iload_n 2, 1) := by decide +kernel
theorem dX7_wave_20 : decode cX7_wave 20 = .ok (.aload_n 0, 1) := by decide +kernel
theorem dX7_wave_21 : decode cX7_wave 21 = .ok (.getfield 101, 3) := by decide +kernel
theorem dX7_wave_24 : decode cX7_wave 24 = .ok (.iload_n 1, 1) := by decide +kernel
theorem dX7_wave_25 : decode cX7_wave 25 = .ok (.iaload, 1) := by decide +kernel
theorem dX7_wave_26 : decode cX7_wave 26 = .ok (.if_icmp .ge 9, 3) := by decide +kernel
theorem dX7_wave_29 : decode cX7_wave 29 = .ok (.iload_n 2, 1) := by decide +kernel
theorem dX7_wave_30 : decode cX7_wave 30 = .ok (.bipush 20, 2) := by decide +kernel
theorem dX7_wave_32 : decode cX7_wave 32 = .ok (.if_icmp .lt 7, 3) := by decide +kernel
theorem dX7_wave_35 : decode cX7_wave 35 = .ok (.iconst (-1), 1) := by decide +kernel
theorem dX7_wave_36 : decode cX7_wave 36 = .ok (.goto 14, 3) := by decide +kernel
theorem dX7_wave_39 : decode cX7_wave 39 = .ok (.aload_n 0, 1) := by decide +kernel
theorem dX7_wave_40 : decode cX7_wave 40 = .ok (.getfield 98, 3) := by decide +kernel
theorem dX7_wave_43 : decode cX7_wave 43 = .ok (.bipush 20, 2) := by decide +kernel
theorem dX7_wave_45 : decode cX7_wave 45 = .ok (.iload_n 1, 1) := by decide +kernel
theorem dX7_wave_46 : decode cX7_wave 46 = .ok (.imul, 1) := by decide +kernel
theorem dX7_wave_47 : decode cX7_wave 47 = .ok (.iload_n 2, 1) := by decide +kernel
theorem dX7_wave_48 : decode cX7_wave 48 = .ok (.iadd, 1) := by decide +kernel
theorem dX7_wave_49 : decode cX7_wave 49 = .ok (.iaload, 1) := by decide +kernel
theorem dX7_wave_50 : decode cX7_wave 50 = .ok (.ireturn, 1) := by decide +kernel
theorem dX7_isQuiet_0 : decode cX7_isQuiet 0 = .ok (.aload_n 0, 1) := by decide +kernel
theorem dX7_isQuiet_1 : decode cX7_isQuiet 1 = .ok (.getfield 319, 3) := by decide +kernel
theorem dX7_isQuiet_4 : decode cX7_isQuiet 4 = .ok (.ifCond .ne 7, 3) := by decide +kernel
theorem dX7_isQuiet_7 : decode cX7_isQuiet 7 = .ok (.iconst 1, 1) := by decide +kernel
theorem dX7_isQuiet_8 : decode cX7_isQuiet 8 = .ok (.goto 4, 3) := by decide +kernel
theorem dX7_isQuiet_11 : decode cX7_isQuiet 11 = .ok (.iconst 0, 1) := by decide +kernel
theorem dX7_isQuiet_12 : decode cX7_isQuiet 12 = .ok (.istore_n 1, 1) := by decide +kernel
theorem dX7_isQuiet_13 : decode cX7_isQuiet 13 = .ok (.iconst 0, 1) := by decide +kernel
theorem dX7_isQuiet_14 : decode cX7_isQuiet 14 = .ok (.istore_n 2, 1) := by decide +kernel
theorem dX7_isQuiet_15 : decode cX7_isQuiet 15 = .ok (.iload_n 2, 1) := by decide +kernel
theorem dX7_isQuiet_16 : decode cX7_isQuiet 16 = .ok (.aload_n 0, 1) := by decide +kernel
theorem dX7_isQuiet_17 : decode cX7_isQuiet 17 = .ok (.getfield 261, 3) := by decide +kernel
theorem dX7_isQuiet_20 : decode cX7_isQuiet 20 = .ok (.if_icmp .ge 28, 3) := by decide +kernel
theorem dX7_isQuiet_23 : decode cX7_isQuiet 23 = .ok (.iload_n 1, 1) := by decide +kernel
theorem dX7_isQuiet_24 : decode cX7_isQuiet 24 = .ok (.ifCond .eq 16, 3) := by decide +kernel
theorem dX7_isQuiet_27 : decode cX7_isQuiet 27 = .ok (.aload_n 0, 1) := by decide +kernel
theorem dX7_isQuiet_28 : decode cX7_isQuiet 28 = .ok (.getfield 104, 3) := by decide +kernel
theorem dX7_isQuiet_31 : decode cX7_isQuiet 31 = .ok (.iload_n 2, 1) := by decide +kernel
theorem dX7_isQuiet_32 : decode cX7_isQuiet 32 = .ok (.baload, 1) := by decide +kernel
theorem dX7_isQuiet_33 : decode cX7_isQuiet 33 = .ok (.ifCond .ne 7, 3) := by decide +kernel
theorem dX7_isQuiet_36 : decode cX7_isQuiet 36 = .ok (.iconst 1, 1) := by decide +kernel
theorem dX7_isQuiet_37 : decode cX7_isQuiet 37 = .ok (.goto 4, 3) := by decide +kernel
theorem dX7_isQuiet_40 : decode cX7_isQuiet 40 = .ok (.iconst 0, 1) := by decide +kernel
theorem dX7_isQuiet_41 : decode cX7_isQuiet 41 = .ok (.istore_n 1, 1) := by decide +kernel
theorem dX7_isQuiet_42 : decode cX7_isQuiet 42 = .ok (.iinc 2 1, 3) := by decide +kernel
theorem dX7_isQuiet_45 : decode cX7_isQuiet 45 = .ok (.goto (-30), 3) := by decide +kernel
theorem dX7_isQuiet_48 : decode cX7_isQuiet 48 = .ok (.iload_n 1, 1) := by decide +kernel
theorem dX7_isQuiet_49 : decode cX7_isQuiet 49 = .ok (.ireturn, 1) := by decide +kernel
set_option maxRecDepth 20000 in
theorem ggX7_about_X7_find : GoodIn wsX7_about wsX7_find := goodIn_r _ [11, 6, 1, 12, 13, 14, 15, 16, 10, 17, 18, 19, 25, 26, 27, 28, 29, 30, 31, 32, 33, 34, 35, 36, 37, 38, 39, 40, 41, 42, 43, 44, 45, 46, 47, 48, 49, 50, 51, 52, 53, 54, 55, 56, 57, 58, 59, 60, 61, 62, 63, 64, 65, 66, 67, 68, 69, 70, 71, 72, 73] (by decide +kernel) (by decide +kernel)
set_option maxRecDepth 20000 in
theorem gX7_about_X7_find : GoodIn wsX7_about (wsV RX7 310 RX7 yX7_find wsX7_find) := goodIn_app (goodIn_of _ (by decide +kernel)) ggX7_about_X7_find
set_option maxRecDepth 20000 in
theorem ggX7_about_X7_isQuiet : GoodIn wsX7_about wsX7_isQuiet := goodIn_r _ [23, 5, 1, 24, 25, 26, 27, 28, 29, 30, 31, 32, 33, 34, 35, 36, 37, 38, 39, 40, 41, 42, 43, 44, 45, 46, 47, 48, 49, 50, 51, 52, 53, 54, 55, 56, 57, 58, 59, 60, 61, 62, 63, 64, 65, 66, 67, 68, 69, 70, 71, 72, 73] (by decide +kernel) (by decide +kernel)
set_option maxRecDepth 20000 in
theorem gX7_about_X7_isQuiet : GoodIn wsX7_about (wsV RX7 332 RX7 yX7_isQuiet wsX7_isQuiet) := goodIn_app (goodIn_of _ (by decide +kernel)) ggX7_about_X7_isQuiet
theorem dX7_about_0 : decode cX7_about 0 = .ok (.aload_n 0, 1) := by decide +kernel
theorem dX7_about_1 : decode cX7_about 1 = .ok (.invokevirtual 310, 3) := by decide +kernel
theorem dX7_about_4 : decode cX7_about 4 = .ok (.iload_n 1, 1) := by decide +kernel
theorem dX7_about_5 : decode cX7_about 5 = .ok (.tableswitch 110 0 5 #[39, 44, 49, 65, 89, 105], 39) := by decide +kernel
theorem dX7_about_44 : decode cX7_about 44 = .ok (.aload_n 0, 1) := by decide +kernel
theorem dX7_about_45 : decode cX7_about 45 = .ok (.getfield 261, 3) := by decide +kernel
theorem dX7_about_48 : decode cX7_about 48 = .ok (.ireturn, 1) := by decide +kernel
theorem dX7_about_49 : decode cX7_about 49 = .ok (.aload_n 0, 1) := by decide +kernel
theorem dX7_about_50 : decode cX7_about 50 = .ok (.getfield 264, 3) := by decide +kernel
theorem dX7_about_53 : decode cX7_about 53 = .ok (.ireturn, 1) := by decide +kernel
theorem dX7_about_54 : decode cX7_about 54 = .ok (.aload_n 0, 1) := by decide +kernel
theorem dX7_about_55 : decode cX7_about 55 = .ok (.getfield 267, 3) := by decide +kernel
theorem dX7_about_58 : decode cX7_about 58 = .ok (.ifCond .eq 10, 3) := by decide +kernel
theorem dX7_about_61 : decode cX7_about 61 = .ok (.aload_n 0, 1) := by decide +kernel
theorem dX7_about_62 : decode cX7_about 62 = .ok (.getfield 316, 3) := by decide +kernel
theorem dX7_about_65 : decode cX7_about 65 = .ok (.goto 4, 3) := by decide +kernel
theorem dX7_about_68 : decode cX7_about 68 = .ok (.iconst (-1), 1) := by decide +kernel
theorem dX7_about_69 : decode cX7_about 69 = .ok (.ireturn, 1) := by decide +kernel
theorem dX7_about_70 : decode cX7_about 70 = .ok (.aload_n 0, 1) := by decide +kernel
theorem dX7_about_71 : decode cX7_about 71 = .ok (.getfield 267, 3) := by decide +kernel
theorem dX7_about_74 : decode cX7_about 74 = .ok (.ifCond .ne 7, 3) := by decide +kernel
theorem dX7_about_77 : decode cX7_about 77 = .ok (.iconst (-1), 1) := by decide +kernel
theorem dX7_about_78 : decode cX7_about 78 = .ok (.goto 15, 3) := by decide +kernel
theorem dX7_about_81 : decode cX7_about 81 = .ok (.aload_n 0, 1) := by decide +kernel
theorem dX7_about_82 : decode cX7_about 82 = .ok (.invokevirtual 332, 3) := by decide +kernel
theorem dX7_about_85 : decode cX7_about 85 = .ok (.ifCond .eq 7, 3) := by decide +kernel
theorem dX7_about_88 : decode cX7_about 88 = .ok (.iconst 1, 1) := by decide +kernel
theorem dX7_about_89 : decode cX7_about 89 = .ok (.goto 4, 3) := by decide +kernel
theorem dX7_about_92 : decode cX7_about 92 = .ok (.iconst 0, 1) := by decide +kernel
theorem dX7_about_93 : decode cX7_about 93 = .ok (.ireturn, 1) := by decide +kernel
theorem dX7_about_94 : decode cX7_about 94 = .ok (.aload_n 0, 1) := by decide +kernel
theorem dX7_about_95 : decode cX7_about 95 = .ok (.getfield 267, 3) := by decide +kernel
theorem dX7_about_98 : decode cX7_about 98 = .ok (.ifCond .eq 10, 3) := by decide +kernel
theorem dX7_about_101 : decode cX7_about 101 = .ok (.aload_n 0, 1) := by decide +kernel
theorem dX7_about_102 : decode cX7_about 102 = .ok (.getfield 319, 3) := by decide +kernel
theorem dX7_about_105 : decode cX7_about 105 = .ok (.goto 4, 3) := by decide +kernel
theorem dX7_about_108 : decode cX7_about 108 = .ok (.iconst (-1), 1) := by decide +kernel
theorem dX7_about_109 : decode cX7_about 109 = .ok (.ireturn, 1) := by decide +kernel
theorem dX7_about_110 : decode cX7_about 110 = .ok (.aload_n 0, 1) := by decide +kernel
theorem dX7_about_111 : decode cX7_about 111 = .ok (.getfield 304, 3) := by decide +kernel
theorem dX7_about_114 : decode cX7_about 114 = .ok (.ireturn, 1) := by decide +kernel
theorem dX7_about_115 : decode cX7_about 115 = .ok (.iconst (-1), 1) := by decide +kernel
theorem dX7_about_116 : decode cX7_about 116 = .ok (.ireturn, 1) := by decide +kernel
theorem dX7_feed_0 : decode cX7_feed 0 = .ok (.aload_n 0, 1) := by decide +kernel
theorem dX7_feed_1 : decode cX7_feed 1 = .ok (.getfield 249, 3) := by decide +kernel
theorem dX7_feed_4 : decode cX7_feed 4 = .ok (.bipush 20, 2) := by decide +kernel
theorem dX7_feed_6 : decode cX7_feed 6 = .ok (.iadd, 1) := by decide +kernel
theorem dX7_feed_7 : decode cX7_feed 7 = .ok (.sipush 2000, 3) := by decide +kernel
theorem dX7_feed_10 : decode cX7_feed 10 = .ok (.if_icmp .le 5, 3) := by decide +kernel
theorem dX7_feed_13 : decode cX7_feed 13 = .ok (.iconst (-1), 1) := by decide +kernel
theorem dX7_feed_14 : decode cX7_feed 14 = .ok (.ireturn, 1) := by decide +kernel
theorem dX7_feed_15 : decode cX7_feed 15 = .ok (.iconst 0, 1) := by decide +kernel
theorem dX7_feed_16 : decode cX7_feed 16 = .ok (.istore 6, 2) := by decide +kernel
theorem dX7_feed_18 : decode cX7_feed 18 = .ok (.iload 6, 2) := by decide +kernel
theorem dX7_feed_20 : decode cX7_feed 20 = .ok (.bipush 20, 2) := by decide +kernel
theorem dX7_feed_22 : decode cX7_feed 22 = .ok (.if_icmp .ge 83, 3) := by decide +kernel
theorem dX7_feed_25 : decode cX7_feed 25 = .ok (.iload 6, 2) := by decide +kernel
theorem dX7_feed_27 : decode cX7_feed 27 = .ok (.iconst 4, 1) := by decide +kernel
theorem dX7_feed_28 : decode cX7_feed 28 = .ok (.if_icmp .ge 7, 3) := by decide +kernel
theorem dX7_feed_31 : decode cX7_feed 31 = .ok (.iload_n 1, 1) := by decide +kernel
theorem dX7_feed_32 : decode cX7_feed 32 = .ok (.goto 39, 3) := by decide +kernel
theorem dX7_feed_35 : decode cX7_feed 35 = .ok (.iload 6, 2) := by decide +kernel
theorem dX7_feed_37 : decode cX7_feed 37 = .ok (.bipush 8, 2) := by decide +kernel
theorem dX7_feed_39 : decode cX7_feed 39 = .ok (.if_icmp .ge 7, 3) := by decide +kernel
theorem dX7_feed_42 : decode cX7_feed 42 = .ok (.iload_n 2, 1) := by decide +kernel
theorem dX7_feed_43 : decode cX7_feed 43 = .ok (.goto 28, 3) := by decide +kernel
theorem dX7_feed_46 : decode cX7_feed 46 = .ok (.iload 6, 2) := by decide +kernel
theorem dX7_feed_48 : decode cX7_feed 48 = .ok (.bipush 12, 2) := by decide +kernel
theorem dX7_feed_50 : decode cX7_feed 50 = .ok (.if_icmp .ge 7, 3) := by decide +kernel
theorem dX7_feed_53 : decode cX7_feed 53 = .ok (.iload_n 3, 1) := by decide +kernel
theorem dX7_feed_54 : decode cX7_feed 54 = .ok (.goto 17, 3) := by decide +kernel
theorem dX7_feed_57 : decode cX7_feed 57 = .ok (.iload 6, 2) := by decide +kernel
theorem dX7_feed_59 : decode cX7_feed 59 = .ok (.bipush 16, 2) := by decide +kernel
theorem dX7_feed_61 : decode cX7_feed 61 = .ok (.if_icmp .ge 8, 3) := by decide +kernel
theorem dX7_feed_64 : decode cX7_feed 64 = .ok (.iload 4, 2) := by decide +kernel
theorem dX7_feed_66 : decode cX7_feed 66 = .ok (.goto 5, 3) := by decide +kernel
theorem dX7_feed_69 : decode cX7_feed 69 = .ok (.iload 5, 2) := by decide +kernel
theorem dX7_feed_71 : decode cX7_feed 71 = .ok (.istore 7, 2) := by decide +kernel
theorem dX7_feed_73 : decode cX7_feed 73 = .ok (.aload_n 0, 1) := by decide +kernel
theorem dX7_feed_74 : decode cX7_feed 74 = .ok (.getfield 7, 3) := by decide +kernel
theorem dX7_feed_77 : decode cX7_feed 77 = .ok (.aload_n 0, 1) := by decide +kernel
theorem dX7_feed_78 : decode cX7_feed 78 = .ok (.getfield 249, 3) := by decide +kernel
theorem dX7_feed_81 : decode cX7_feed 81 = .ok (.iload 6, 2) := by decide +kernel
theorem dX7_feed_83 : decode cX7_feed 83 = .ok (.iadd, 1) := by decide +kernel
theorem dX7_feed_84 : decode cX7_feed 84 = .ok (.iload 7, 2) := by decide +kernel
theorem dX7_feed_86 : decode cX7_feed 86 = .ok (.bipush 24, 2) := by decide +kernel
theorem dX7_feed_88 : decode cX7_feed 88 = .ok (.bipush 8, 2) := by decide +kernel
theorem dX7_feed_90 : decode cX7_feed 90 = .ok (.iload 6, 2) := by decide +kernel
theorem dX7_feed_92 : decode cX7_feed 92 = .ok (.iconst 3, 1) := by decide +kernel
theorem dX7_feed_93 : decode cX7_feed 93 = .ok (.iand, 1) := by decide +kernel
theorem dX7_feed_94 : decode cX7_feed 94 = .ok (.imul, 1) := by decide +kernel
theorem dX7_feed_95 : decode cX7_feed 95 = .ok (.isub, 1) := by decide +kernel
theorem dX7_feed_96 : decode cX7_feed 96 = .ok (.ishr, 1) := by decide +kernel
theorem dX7_feed_97 : decode cX7_feed 97 = .ok (.i2b, 1) := by decide +kernel
theorem dX7_feed_98 : decode cX7_feed 98 = .ok (.bastore, 1) := by decide +kernel
theorem dX7_feed_99 : decode cX7_feed 99 = .ok (.iinc 6 1, 3) := by decide +kernel
theorem dX7_feed_102 : decode cX7_feed 102 = .ok (.goto (-84), 3) := by decide +kernel
theorem dX7_feed_105 : decode cX7_feed 105 = .ok (.aload_n 0, 1) := by decide +kernel
theorem dX7_feed_106 : decode cX7_feed 106 = .ok (.dup, 1) := by decide +kernel
theorem dX7_feed_107 : decode cX7_feed 107 = .ok (.getfield 249, 3) := by decide +kernel
theorem dX7_feed_110 : decode cX7_feed 110 = .ok (.bipush 20, 2) := by decide +kernel
theorem dX7_feed_112 : decode cX7_feed 112 = .ok (.iadd, 1) := by decide +kernel
theorem dX7_feed_113 : decode cX7_feed 113 = .ok (.putfield 249, 3) := by decide +kernel
theorem dX7_feed_116 : decode cX7_feed 116 = .ok (.aload_n 0, 1) := by decide +kernel
theorem dX7_feed_117 : decode cX7_feed 117 = .ok (.getfield 249, 3) := by decide +kernel
theorem dX7_feed_120 : decode cX7_feed 120 = .ok (.ireturn, 1) := by decide +kernel
theorem dX7_end_0 : decode cX7_end 0 = .ok (.iload_n 1, 1) := by decide +kernel
theorem dX7_end_1 : decode cX7_end 1 = .ok (.ifCond .lt 11, 3) := by decide +kernel
theorem dX7_end_4 : decode cX7_end 4 = .ok (.iload_n 1, 1) := by decide +kernel
theorem dX7_end_5 : decode cX7_end 5 = .ok (.aload_n 0, 1) := by decide +kernel
theorem dX7_end_6 : decode cX7_end 6 = .ok (.getfield 249, 3) := by decide +kernel
theorem dX7_end_9 : decode cX7_end 9 = .ok (.if_icmp .le 5, 3) := by decide +kernel
theorem dX7_end_12 : decode cX7_end 12 = .ok (.iconst (-1), 1) := by decide +kernel
theorem dX7_end_13 : decode cX7_end 13 = .ok (.ireturn, 1) := by decide +kernel
theorem dX7_end_14 : decode cX7_end 14 = .ok (.aload_n 0, 1) := by decide +kernel
theorem dX7_end_15 : decode cX7_end 15 = .ok (.iload_n 1, 1) := by decide +kernel
theorem dX7_end_16 : decode cX7_end 16 = .ok (.putfield 249, 3) := by decide +kernel
theorem dX7_end_19 : decode cX7_end 19 = .ok (.iload_n 1, 1) := by decide +kernel
theorem dX7_end_20 : decode cX7_end 20 = .ok (.ireturn, 1) := by decide +kernel
theorem dJ13_bitCount_95d88_0 : decode cJ13_bitCount_95d88 0 = .ok (.lload_n 0, 1) := by decide +kernel
theorem dJ13_bitCount_95d88_1 : decode cJ13_bitCount_95d88 1 = .ok (.lload_n 0, 1) := by decide +kernel
theorem dJ13_bitCount_95d88_2 : decode cJ13_bitCount_95d88 2 = .ok (.iconst 1, 1) := by decide +kernel
theorem dJ13_bitCount_95d88_3 : decode cJ13_bitCount_95d88 3 = .ok (.lushr, 1) := by decide +kernel
theorem dJ13_bitCount_95d88_4 : decode cJ13_bitCount_95d88 4 = .ok (.ldc2_w 314, 3) := by decide +kernel
theorem dJ13_bitCount_95d88_7 : decode cJ13_bitCount_95d88 7 = .ok (.land, 1) := by decide +kernel
theorem dJ13_bitCount_95d88_8 : decode cJ13_bitCount_95d88 8 = .ok (.lsub, 1) := by decide +kernel
theorem dJ13_bitCount_95d88_9 : decode cJ13_bitCount_95d88 9 = .ok (.lstore_n 0, 1) := by decide +kernel
theorem dJ13_bitCount_95d88_10 : decode cJ13_bitCount_95d88 10 = .ok (.lload_n 0, 1) := by decide +kernel
theorem dJ13_bitCount_95d88_11 : decode cJ13_bitCount_95d88 11 = .ok (.ldc2_w 316, 3) := by decide +kernel
theorem dJ13_bitCount_95d88_14 : decode cJ13_bitCount_95d88 14 = .ok (.land, 1) := by decide +kernel
theorem dJ13_bitCount_95d88_15 : decode cJ13_bitCount_95d88 15 = .ok (.lload_n 0, 1) := by decide +kernel
theorem dJ13_bitCount_95d88_16 : decode cJ13_bitCount_95d88 16 = .ok (.iconst 2, 1) := by decide +kernel
theorem dJ13_bitCount_95d88_17 : decode cJ13_bitCount_95d88 17 = .ok (.lushr, 1) := by decide +kernel
theorem dJ13_bitCount_95d88_18 : decode cJ13_bitCount_95d88 18 = .ok (.ldc2_w 316, 3) := by decide +kernel
theorem dJ13_bitCount_95d88_21 : decode cJ13_bitCount_95d88 21 = .ok (.land, 1) := by decide +kernel
theorem dJ13_bitCount_95d88_22 : decode cJ13_bitCount_95d88 22 = .ok (.ladd, 1) := by decide +kernel
theorem dJ13_bitCount_95d88_23 : decode cJ13_bitCount_95d88 23 = .ok (.lstore_n 0, 1) := by decide +kernel
theorem dJ13_bitCount_95d88_24 : decode cJ13_bitCount_95d88 24 = .ok (.lload_n 0, 1) := by decide +kernel
theorem dJ13_bitCount_95d88_25 : decode cJ13_bitCount_95d88 25 = .ok (.lload_n 0, 1) := by decide +kernel
theorem dJ13_bitCount_95d88_26 : decode cJ13_bitCount_95d88 26 = .ok (.iconst 4, 1) := by decide +kernel
theorem dJ13_bitCount_95d88_27 : decode cJ13_bitCount_95d88 27 = .ok (.lushr, 1) := by decide +kernel
theorem dJ13_bitCount_95d88_28 : decode cJ13_bitCount_95d88 28 = .ok (.ladd, 1) := by decide +kernel
theorem dJ13_bitCount_95d88_29 : decode cJ13_bitCount_95d88 29 = .ok (.ldc2_w 318, 3) := by decide +kernel
theorem dJ13_bitCount_95d88_32 : decode cJ13_bitCount_95d88 32 = .ok (.land, 1) := by decide +kernel
theorem dJ13_bitCount_95d88_33 : decode cJ13_bitCount_95d88 33 = .ok (.lstore_n 0, 1) := by decide +kernel
theorem dJ13_bitCount_95d88_34 : decode cJ13_bitCount_95d88 34 = .ok (.lload_n 0, 1) := by decide +kernel
theorem dJ13_bitCount_95d88_35 : decode cJ13_bitCount_95d88 35 = .ok (.lload_n 0, 1) := by decide +kernel
theorem dJ13_bitCount_95d88_36 : decode cJ13_bitCount_95d88 36 = .ok (.bipush 8, 2) := by decide +kernel
theorem dJ13_bitCount_95d88_38 : decode cJ13_bitCount_95d88 38 = .ok (.lushr, 1) := by decide +kernel
theorem dJ13_bitCount_95d88_39 : decode cJ13_bitCount_95d88 39 = .ok (.ladd, 1) := by decide +kernel
theorem dJ13_bitCount_95d88_40 : decode cJ13_bitCount_95d88 40 = .ok (.lstore_n 0, 1) := by decide +kernel
theorem dJ13_bitCount_95d88_41 : decode cJ13_bitCount_95d88 41 = .ok (.lload_n 0, 1) := by decide +kernel
theorem dJ13_bitCount_95d88_42 : decode cJ13_bitCount_95d88 42 = .ok (.lload_n 0, 1) := by decide +kernel
theorem dJ13_bitCount_95d88_43 : decode cJ13_bitCount_95d88 43 = .ok (.bipush 16, 2) := by decide +kernel
theorem dJ13_bitCount_95d88_45 : decode cJ13_bitCount_95d88 45 = .ok (.lushr, 1) := by decide +kernel
theorem dJ13_bitCount_95d88_46 : decode cJ13_bitCount_95d88 46 = .ok (.ladd, 1) := by decide +kernel
theorem dJ13_bitCount_95d88_47 : decode cJ13_bitCount_95d88 47 = .ok (.lstore_n 0, 1) := by decide +kernel
theorem dJ13_bitCount_95d88_48 : decode cJ13_bitCount_95d88 48 = .ok (.lload_n 0, 1) := by decide +kernel
theorem dJ13_bitCount_95d88_49 : decode cJ13_bitCount_95d88 49 = .ok (.lload_n 0, 1) := by decide +kernel
theorem dJ13_bitCount_95d88_50 : decode cJ13_bitCount_95d88 50 = .ok (.bipush 32, 2) := by decide +kernel
theorem dJ13_bitCount_95d88_52 : decode cJ13_bitCount_95d88 52 = .ok (.lushr, 1) := by decide +kernel
theorem dJ13_bitCount_95d88_53 : decode cJ13_bitCount_95d88 53 = .ok (.ladd, 1) := by decide +kernel
theorem dJ13_bitCount_95d88_54 : decode cJ13_bitCount_95d88 54 = .ok (.lstore_n 0, 1) := by decide +kernel
theorem dJ13_bitCount_95d88_55 : decode cJ13_bitCount_95d88 55 = .ok (.lload_n 0, 1) := by decide +kernel
theorem dJ13_bitCount_95d88_56 : decode cJ13_bitCount_95d88 56 = .ok (.l2i, 1) := by decide +kernel
theorem dJ13_bitCount_95d88_57 : decode cJ13_bitCount_95d88 57 = .ok (.bipush 127, 2) := by decide +kernel
theorem dJ13_bitCount_95d88_59 : decode cJ13_bitCount_95d88 59 = .ok (.iand, 1) := by decide +kernel
theorem dJ13_bitCount_95d88_60 : decode cJ13_bitCount_95d88 60 = .ok (.ireturn, 1) := by decide +kernel
theorem dJ9_floorMod_7cf53_0 : decode cJ9_floorMod_7cf53 0 = .ok (.iload_n 0, 1) := by decide +kernel
theorem dJ9_floorMod_7cf53_1 : decode cJ9_floorMod_7cf53 1 = .ok (.iload_n 1, 1) := by decide +kernel
theorem dJ9_floorMod_7cf53_2 : decode cJ9_floorMod_7cf53 2 = .ok (.irem, 1) := by decide +kernel
theorem dJ9_floorMod_7cf53_3 : decode cJ9_floorMod_7cf53 3 = .ok (.istore_n 2, 1) := by decide +kernel
theorem dJ9_floorMod_7cf53_4 : decode cJ9_floorMod_7cf53 4 = .ok (.iload_n 0, 1) := by decide +kernel
theorem dJ9_floorMod_7cf53_5 : decode cJ9_floorMod_7cf53 5 = .ok (.iload_n 1, 1) := by decide +kernel
theorem dJ9_floorMod_7cf53_6 : decode cJ9_floorMod_7cf53 6 = .ok (.ixor, 1) := by decide +kernel
theorem dJ9_floorMod_7cf53_7 : decode cJ9_floorMod_7cf53 7 = .ok (.ifCond .ge 11, 3) := by decide +kernel
theorem dJ9_floorMod_7cf53_10 : decode cJ9_floorMod_7cf53 10 = .ok (.iload_n 2, 1) := by decide +kernel
theorem dJ9_floorMod_7cf53_11 : decode cJ9_floorMod_7cf53 11 = .ok (.ifCond .eq 7, 3) := by decide +kernel
theorem dJ9_floorMod_7cf53_14 : decode cJ9_floorMod_7cf53 14 = .ok (.iload_n 2, 1) := by decide +kernel
theorem dJ9_floorMod_7cf53_15 : decode cJ9_floorMod_7cf53 15 = .ok (.iload_n 1, 1) := by decide +kernel
theorem dJ9_floorMod_7cf53_16 : decode cJ9_floorMod_7cf53 16 = .ok (.iadd, 1) := by decide +kernel
theorem dJ9_floorMod_7cf53_17 : decode cJ9_floorMod_7cf53 17 = .ok (.ireturn, 1) := by decide +kernel
theorem dJ9_floorMod_7cf53_18 : decode cJ9_floorMod_7cf53 18 = .ok (.iload_n 2, 1) := by decide +kernel
theorem dJ9_floorMod_7cf53_19 : decode cJ9_floorMod_7cf53 19 = .ok (.ireturn, 1) := by decide +kernel
theorem dJ9_max_7cf53_0 : decode cJ9_max_7cf53 0 = .ok (.iload_n 0, 1) := by decide +kernel
theorem dJ9_max_7cf53_1 : decode cJ9_max_7cf53 1 = .ok (.iload_n 1, 1) := by decide +kernel
theorem dJ9_max_7cf53_2 : decode cJ9_max_7cf53 2 = .ok (.if_icmp .lt 7, 3) := by decide +kernel
theorem dJ9_max_7cf53_5 : decode cJ9_max_7cf53 5 = .ok (.iload_n 0, 1) := by decide +kernel
theorem dJ9_max_7cf53_6 : decode cJ9_max_7cf53 6 = .ok (.goto 4, 3) := by decide +kernel
theorem dJ9_max_7cf53_9 : decode cJ9_max_7cf53 9 = .ok (.iload_n 1, 1) := by decide +kernel
theorem dJ9_max_7cf53_10 : decode cJ9_max_7cf53 10 = .ok (.ireturn, 1) := by decide +kernel
theorem dJ9_min_7cf53_0 : decode cJ9_min_7cf53 0 = .ok (.iload_n 0, 1) := by decide +kernel
theorem dJ9_min_7cf53_1 : decode cJ9_min_7cf53 1 = .ok (.iload_n 1, 1) := by decide +kernel
theorem dJ9_min_7cf53_2 : decode cJ9_min_7cf53 2 = .ok (.if_icmp .gt 7, 3) := by decide +kernel
theorem dJ9_min_7cf53_5 : decode cJ9_min_7cf53 5 = .ok (.iload_n 0, 1) := by decide +kernel
theorem dJ9_min_7cf53_6 : decode cJ9_min_7cf53 6 = .ok (.goto 4, 3) := by decide +kernel
theorem dJ9_min_7cf53_9 : decode cJ9_min_7cf53 9 = .ok (.iload_n 1, 1) := by decide +kernel
theorem dJ9_min_7cf53_10 : decode cJ9_min_7cf53 10 = .ok (.ireturn, 1) := by decide +kernel
set_option maxRecDepth 20000 in
theorem ggL_law_X6_init : GoodIn wsL_law wsX6_init := goodIn_r _ [9, 10, 11, 12, 13, 14, 15, 16, 17, 18, 19, 20, 21, 22, 23, 24, 25, 26, 27, 28, 29, 30, 31, 32, 33, 34, 35, 36, 37, 38, 39, 40, 41, 42, 43, 44, 45, 46, 47, 48, 49, 50, 51, 52, 53, 54, 55, 56, 57, 58, 59, 60, 61, 62, 63, 64, 65, 66, 67, 68, 69, 70, 71, 72, 73, 74, 75, 76, 77, 909, 910, 911, 912, 913, 914, 915, 916, 917, 918, 919, 920, 970, 971, 972, 973, 974, 975, 976, 977, 978, 979, 980, 981, 982, 983, 984, 985, 986, 987, 988, 989, 990, 991, 992, 993, 994, 995, 996, 997, 998, 999, 1000, 1001, 1002, 1003, 1004, 1005, 1006, 1007, 1008, 1009, 1010, 1011, 1012, 1013, 1014, 1015, 1016, 1017, 1018, 1019] (by decide +kernel) (by decide +kernel)
set_option maxRecDepth 20000 in
theorem gL_law_X6_init : GoodIn wsL_law (wsX6_init) := ggL_law_X6_init
set_option maxRecDepth 20000 in
theorem ggL_law_X7_init : GoodIn wsL_law wsX7_init := goodIn_r _ [80, 81, 11, 12, 13, 82, 83, 84, 44, 85, 24, 86, 87, 88, 89, 90, 91, 92, 93, 94, 95, 96, 97, 98, 99, 100, 101, 102, 103, 104, 105, 106, 107, 108, 109, 110, 111, 112, 113, 921, 922, 923, 924, 925, 926, 927, 928, 929, 930, 931, 932, 933, 934, 935, 936, 937, 938, 939, 940, 941, 942, 943, 944, 945, 946, 947, 948, 949, 950, 951, 952, 953, 954, 955, 956, 957, 958, 959, 960, 961, 962, 963, 964, 965, 966, 967, 968, 969] (by decide +kernel) (by decide +kernel)
set_option maxRecDepth 20000 in
theorem gL_law_X7_init : GoodIn wsL_law (wsX7_init) := ggL_law_X7_init
set_option maxRecDepth 20000 in
theorem ggL_law_X6_feed : GoodIn wsL_law wsX6_feed := goodIn_r _ [117, 118, 119, 120, 121, 2, 122, 14, 909, 910, 911, 912, 913, 914, 915, 916, 917, 918, 919, 920] (by decide +kernel) (by decide +kernel)
set_option maxRecDepth 20000 in
theorem gL_law_X6_feed : GoodIn wsL_law (wsV RL 13 RX6 yX6_feed wsX6_feed) := goodIn_app (goodIn_of _ (by decide +kernel)) ggL_law_X6_feed
set_option maxRecDepth 20000 in
theorem ggL_law_X7_feed : GoodIn wsL_law wsX7_feed := goodIn_r _ [126, 127, 82, 921, 922, 923, 924, 925, 926, 927, 928, 929, 930, 931, 932, 933, 934, 935, 936, 937, 938, 939, 940, 941, 942, 943, 944, 945, 946, 947, 948, 949, 950, 951, 952, 953, 954, 955, 956, 957, 958, 959, 960, 961, 962, 963, 964, 965, 966, 967, 968, 969] (by decide +kernel) (by decide +kernel)
set_option maxRecDepth 20000 in
theorem gL_law_X7_feed : GoodIn wsL_law (wsV RL 17 RX7 yX7_feed wsX7_feed) := goodIn_app (goodIn_of _ (by decide +kernel)) ggL_law_X7_feed
set_option maxRecDepth 20000 in
theorem ggL_law_X6_end : GoodIn wsL_law wsX6_end := goodIn_r _ [131, 118, 909, 910, 911, 912, 913, 914, 915, 916, 917, 918, 919, 920] (by decide +kernel) (by decide +kernel)
set_option maxRecDepth 20000 in
theorem gL_law_X6_end : GoodIn wsL_law (wsV RL 18 RX6 yX6_end wsX6_end) := goodIn_app (goodIn_of _ (by decide +kernel)) ggL_law_X6_end
set_option maxRecDepth 20000 in
theorem ggL_law_X7_end : GoodIn wsL_law wsX7_end := goodIn_r _ [135, 127, 921, 922, 923, 924, 925, 926, 927, 928, 929, 930, 931, 932, 933, 934, 935, 936, 937, 938, 939, 940, 941, 942, 943, 944, 945, 946, 947, 948, 949, 950, 951, 952, 953, 954, 955, 956, 957, 958, 959, 960, 961, 962, 963, 964, 965, 966, 967, 968, 969] (by decide +kernel) (by decide +kernel)
set_option maxRecDepth 20000 in
theorem gL_law_X7_end : GoodIn wsL_law (wsV RL 22 RX7 yX7_end wsX7_end) := goodIn_app (goodIn_of _ (by decide +kernel)) ggL_law_X7_end
set_option maxRecDepth 20000 in
theorem ggL_law_X6_read : GoodIn wsL_law wsX6_read := goodIn_r _ [139, 118, 18, 23, 14, 22, 140, 25, 141, 142, 143, 144, 17, 145, 146, 147, 39, 148, 43, 149, 150, 151, 21, 152, 153, 154, 155, 156, 157, 42, 158, 159, 160, 161, 162, 163, 164, 165, 166, 167, 168, 169, 170, 171, 172, 173, 174, 175, 176, 177, 178, 179, 180, 181, 182, 183, 184, 185, 186, 187, 188, 189, 190, 191, 192, 193, 194, 195, 196, 197, 198, 199, 200, 201, 202, 203, 204, 205, 206, 207, 208, 209, 210, 211, 212, 213, 214, 215, 216, 217, 218, 219, 220, 221, 222, 223, 224, 225, 226, 227, 228, 229, 230, 231, 232, 233, 234, 235, 236, 237, 238, 239, 240, 241, 242, 243, 244, 245, 246, 247, 248, 249, 250, 251, 252, 253, 254, 255, 256, 257, 258, 259, 260, 261, 262, 55, 263, 264, 265, 266, 56, 57, 58, 59, 61, 62, 63, 64, 267, 268, 269, 270, 271, 272, 273, 274, 275, 276, 277, 278, 279, 280, 281, 282, 283, 284, 285, 286, 47, 45, 287, 288, 289, 290, 291, 292, 293, 294, 295, 296, 297, 298, 299, 300, 301, 302, 303, 304, 305, 306, 307, 308, 46, 309, 310, 311, 312, 313, 314, 315, 316, 317, 318, 319, 320, 321, 322, 323, 324, 325, 326, 327, 328, 329, 330, 331, 332, 333, 334, 335, 336, 337, 338, 339, 340, 341, 342, 343, 60, 344, 345, 346, 347, 348, 48, 349, 350, 351, 352, 353, 354, 355, 356, 357, 358, 65, 359, 360, 361, 362, 363, 364, 365, 366, 367, 368, 369, 370, 371, 372, 2, 373, 374, 375, 376, 377, 378, 379, 380, 381, 382, 383, 384, 385, 386, 387, 388, 389, 390, 391, 392, 393, 394, 395, 396, 397, 398, 399, 400, 401, 402, 403, 404, 405, 406, 407, 408, 409, 410, 411, 412, 909, 910, 911, 912, 913, 914, 915, 916, 917, 918, 919, 920, 987, 988, 989, 990, 991, 992, 993, 994, 995, 996, 997, 998, 999, 970, 971, 972, 973, 974, 975, 976, 977, 978, 979, 980, 981, 982, 983, 984, 985, 986, 1013, 1014, 1015, 1016, 1017, 1018, 1019] (by decide +kernel) (by decide +kernel)
set_option maxRecDepth 20000 in
theorem gL_law_X6_read : GoodIn wsL_law (wsV RL 23 RX6 yX6_read wsX6_read) := goodIn_app (goodIn_of _ (by decide +kernel)) ggL_law_X6_read
set_option maxRecDepth 20000 in
theorem ggL_law_X7_read : GoodIn wsL_law wsX7_read := goodIn_r _ [416, 417, 84, 127, 418, 83, 82, 419, 420, 421, 422, 423, 424, 425, 426, 427, 102, 428, 429, 430, 5, 431, 432, 433, 434, 435, 436, 437, 438, 439, 440, 441, 442, 443, 444, 445, 446, 447, 448, 449, 450, 451, 452, 453, 454, 455, 456, 457, 458, 459, 460, 461, 462, 463, 464, 465, 466, 467, 468, 469, 470, 471, 472, 473, 474, 475, 476, 477, 478, 479, 480, 481, 85, 86, 87, 88, 89, 92, 482, 483, 484, 485, 486, 487, 488, 489, 490, 491, 492, 493, 494, 495, 496, 497, 498, 499, 500, 501, 502, 503, 504, 505, 506, 507, 508, 509, 95, 96, 97, 510, 511, 512, 513, 514, 515, 516, 517, 518, 519, 520, 521, 522, 523, 98, 99, 100, 524, 525, 526, 527, 90, 94, 528, 529, 530, 531, 532, 533, 534, 535, 91, 536, 537, 538, 539, 540, 541, 542, 543, 101, 544, 545, 546, 547, 548, 549, 550, 551, 552, 553, 554, 555, 103, 556, 557, 558, 559, 560, 561, 562, 563, 564, 565, 566, 567, 568, 569, 570, 571, 572, 573, 574, 921, 922, 923, 924, 925, 926, 927, 928, 929, 930, 931, 932, 933, 934, 935, 936, 937, 938, 939, 940, 941, 942, 943, 944, 945, 946, 947, 948, 949, 950, 951, 952, 953, 954, 955, 956, 957, 958, 959, 960, 961, 962, 963, 964, 965, 966, 967, 968, 969] (by decide +kernel) (by decide +kernel)
set_option maxRecDepth 20000 in
theorem gL_law_X7_read : GoodIn wsL_law (wsV RL 27 RX7 yX7_read wsX7_read) := goodIn_app (goodIn_of _ (by decide +kernel)) ggL_law_X7_read
set_option maxRecDepth 20000 in
theorem ggL_law_X6_fault : GoodIn wsL_law wsX6_fault := goodIn_r _ [578, 18, 579, 580, 909, 910, 911, 912, 913, 914, 915, 916, 917, 918, 919, 920, 970, 971, 972, 973, 974, 975, 976, 977, 978, 979, 980, 981, 982, 983, 984, 985, 986] (by decide +kernel) (by decide +kernel)
set_option maxRecDepth 20000 in
theorem gL_law_X6_fault : GoodIn wsL_law (wsV RL 28 RX6 yX6_fault wsX6_fault) := goodIn_app (goodIn_of _ (by decide +kernel)) ggL_law_X6_fault
set_option maxRecDepth 20000 in
theorem ggL_law_X7_fault : GoodIn wsL_law wsX7_fault := goodIn_r _ [584, 417, 84, 921, 922, 923, 924, 925, 926, 927, 928, 929, 930, 931, 932, 933, 934, 935, 936, 937, 938, 939, 940, 941, 942, 943, 944, 945, 946, 947, 948, 949, 950, 951, 952, 953, 954, 955, 956, 957, 958, 959, 960, 961, 962, 963, 964, 965, 966, 967, 968, 969] (by decide +kernel) (by decide +kernel)
set_option maxRecDepth 20000 in
theorem gL_law_X7_fault : GoodIn wsL_law (wsV RL 31 RX7 yX7_fault wsX7_fault) := goodIn_app (goodIn_of _ (by decide +kernel)) ggL_law_X7_fault
set_option maxRecDepth 20000 in
theorem ggL_law_X6_named : GoodIn wsL_law wsX6_named := goodIn_r _ [588, 589, 22, 590, 260, 261, 21, 262, 153, 55, 909, 910, 911, 912, 913, 914, 915, 916, 917, 918, 919, 920, 987, 988, 989, 990, 991, 992, 993, 994, 995, 996, 997, 998, 999] (by decide +kernel) (by decide +kernel)
set_option maxRecDepth 20000 in
theorem gL_law_X6_named : GoodIn wsL_law (wsV RL 34 RX6 yX6_named wsX6_named) := goodIn_app (goodIn_of _ (by decide +kernel)) ggL_law_X6_named
set_option maxRecDepth 20000 in
theorem ggL_law_X7_named : GoodIn wsL_law wsX7_named := goodIn_r _ [594, 425, 85, 420, 595, 596, 5, 597, 598, 921, 922, 923, 924, 925, 926, 927, 928, 929, 930, 931, 932, 933, 934, 935, 936, 937, 938, 939, 940, 941, 942, 943, 944, 945, 946, 947, 948, 949, 950, 951, 952, 953, 954, 955, 956, 957, 958, 959, 960, 961, 962, 963, 964, 965, 966, 967, 968, 969] (by decide +kernel) (by decide +kernel)
set_option maxRecDepth 20000 in
theorem gL_law_X7_named : GoodIn wsL_law (wsV RL 38 RX7 yX7_named wsX7_named) := goodIn_app (goodIn_of _ (by decide +kernel)) ggL_law_X7_named
set_option maxRecDepth 20000 in
theorem ggL_law_X6_node : GoodIn wsL_law wsX6_node := goodIn_r _ [602, 22, 603, 604, 605, 606, 298, 299, 21, 300, 153, 607, 337, 338, 339, 57, 61, 909, 910, 911, 912, 913, 914, 915, 916, 917, 918, 919, 920, 987, 988, 989, 990, 991, 992, 993, 994, 995, 996, 997, 998, 999] (by decide +kernel) (by decide +kernel)
set_option maxRecDepth 20000 in
theorem gL_law_X6_node : GoodIn wsL_law (wsV RL 39 RX6 yX6_node wsX6_node) := goodIn_app (goodIn_of _ (by decide +kernel)) ggL_law_X6_node
set_option maxRecDepth 20000 in
theorem ggL_law_X7_node : GoodIn wsL_law wsX7_node := goodIn_r _ [611, 420, 86, 88, 89, 91, 612, 613, 614, 5, 615, 425, 921, 922, 923, 924, 925, 926, 927, 928, 929, 930, 931, 932, 933, 934, 935, 936, 937, 938, 939, 940, 941, 942, 943, 944, 945, 946, 947, 948, 949, 950, 951, 952, 953, 954, 955, 956, 957, 958, 959, 960, 961, 962, 963, 964, 965, 966, 967, 968, 969] (by decide +kernel) (by decide +kernel)
set_option maxRecDepth 20000 in
theorem gL_law_X7_node : GoodIn wsL_law (wsV RL 43 RX7 yX7_node wsX7_node) := goodIn_app (goodIn_of _ (by decide +kernel)) ggL_law_X7_node
set_option maxRecDepth 20000 in
theorem ggL_law_X6_set : GoodIn wsL_law wsX6_set := goodIn_r _ [619, 22, 25, 620, 328, 329, 21, 330, 57, 331, 298, 299, 300, 153, 370, 371, 372, 2, 373, 374, 375, 376, 377, 378, 379, 380, 381, 382, 383, 384, 385, 386, 387, 388, 389, 390, 391, 392, 60, 393, 394, 395, 396, 337, 338, 339, 61, 397, 398, 399, 400, 401, 402, 403, 404, 405, 406, 407, 408, 409, 410, 411, 412, 62, 909, 910, 911, 912, 913, 914, 915, 916, 917, 918, 919, 920, 987, 988, 989, 990, 991, 992, 993, 994, 995, 996, 997, 998, 999] (by decide +kernel) (by decide +kernel)
set_option maxRecDepth 20000 in
theorem gL_law_X6_set : GoodIn wsL_law (wsV RL 44 RX6 yX6_set wsX6_set) := goodIn_app (goodIn_of _ (by decide +kernel)) ggL_law_X6_set
set_option maxRecDepth 20000 in
theorem ggL_law_X7_set : GoodIn wsL_law wsX7_set := goodIn_r _ [624, 102, 612, 613, 614, 5, 615, 425, 548, 549, 550, 551, 86, 420, 552, 553, 554, 555, 103, 556, 557, 558, 559, 91, 560, 561, 562, 563, 87, 88, 564, 565, 566, 567, 90, 568, 569, 570, 571, 572, 573, 574, 94, 921, 922, 923, 924, 925, 926, 927, 928, 929, 930, 931, 932, 933, 934, 935, 936, 937, 938, 939, 940, 941, 942, 943, 944, 945, 946, 947, 948, 949, 950, 951, 952, 953, 954, 955, 956, 957, 958, 959, 960, 961, 962, 963, 964, 965, 966, 967, 968, 969] (by decide +kernel) (by decide +kernel)
set_option maxRecDepth 20000 in
theorem gL_law_X7_set : GoodIn wsL_law (wsV RL 48 RX7 yX7_set wsX7_set) := goodIn_app (goodIn_of _ (by decide +kernel)) ggL_law_X7_set
set_option maxRecDepth 20000 in
theorem ggL_law_X6_load : GoodIn wsL_law wsX6_load := goodIn_r _ [628, 22, 25, 620, 328, 329, 21, 330, 57, 331, 298, 299, 300, 153, 370, 371, 372, 2, 373, 374, 375, 376, 377, 378, 379, 380, 381, 382, 383, 384, 385, 386, 387, 388, 389, 390, 391, 392, 60, 393, 394, 395, 396, 337, 338, 339, 61, 397, 398, 399, 400, 401, 402, 403, 404, 405, 406, 407, 408, 409, 410, 411, 412, 62, 909, 910, 911, 912, 913, 914, 915, 916, 917, 918, 919, 920, 987, 988, 989, 990, 991, 992, 993, 994, 995, 996, 997, 998, 999] (by decide +kernel) (by decide +kernel)
set_option maxRecDepth 20000 in
theorem gL_law_X6_load : GoodIn wsL_law (wsV RL 49 RX6 yX6_load wsX6_load) := goodIn_app (goodIn_of _ (by decide +kernel)) ggL_law_X6_load
set_option maxRecDepth 20000 in
theorem ggL_law_X7_load : GoodIn wsL_law wsX7_load := goodIn_r _ [632, 102, 612, 613, 614, 5, 615, 425, 548, 549, 550, 551, 86, 420, 552, 553, 554, 555, 103, 556, 557, 558, 559, 91, 560, 561, 562, 563, 87, 88, 564, 565, 566, 567, 90, 568, 569, 570, 571, 572, 573, 574, 94, 921, 922, 923, 924, 925, 926, 927, 928, 929, 930, 931, 932, 933, 934, 935, 936, 937, 938, 939, 940, 941, 942, 943, 944, 945, 946, 947, 948, 949, 950, 951, 952, 953, 954, 955, 956, 957, 958, 959, 960, 961, 962, 963, 964, 965, 966, 967, 968, 969] (by decide +kernel) (by decide +kernel)
set_option maxRecDepth 20000 in
theorem gL_law_X7_load : GoodIn wsL_law (wsV RL 52 RX7 yX7_load wsX7_load) := goodIn_app (goodIn_of _ (by decide +kernel)) ggL_law_X7_load
set_option maxRecDepth 20000 in
theorem ggL_law_X6_value : GoodIn wsL_law wsX6_value := goodIn_r _ [636, 22, 25, 606, 298, 299, 21, 300, 153, 909, 910, 911, 912, 913, 914, 915, 916, 917, 918, 919, 920, 987, 988, 989, 990, 991, 992, 993, 994, 995, 996, 997, 998, 999] (by decide +kernel) (by decide +kernel)
set_option maxRecDepth 20000 in
theorem gL_law_X6_value : GoodIn wsL_law (wsV RL 53 RX6 yX6_value wsX6_value) := goodIn_app (goodIn_of _ (by decide +kernel)) ggL_law_X6_value
set_option maxRecDepth 20000 in
theorem ggL_law_X7_value : GoodIn wsL_law wsX7_value := goodIn_r _ [640, 103, 612, 613, 614, 5, 615, 425, 921, 922, 923, 924, 925, 926, 927, 928, 929, 930, 931, 932, 933, 934, 935, 936, 937, 938, 939, 940, 941, 942, 943, 944, 945, 946, 947, 948, 949, 950, 951, 952, 953, 954, 955, 956, 957, 958, 959, 960, 961, 962, 963, 964, 965, 966, 967, 968, 969] (by decide +kernel) (by decide +kernel)
set_option maxRecDepth 20000 in
theorem gL_law_X7_value : GoodIn wsL_law (wsV RL 56 RX7 yX7_value wsX7_value) := goodIn_app (goodIn_of _ (by decide +kernel)) ggL_law_X7_value
set_option maxRecDepth 20000 in
theorem ggL_law_X6_tick : GoodIn wsL_law wsX6_tick := goodIn_r _ [644, 22, 140, 26, 603, 25, 645, 646, 377, 647, 389, 390, 391, 21, 392, 60, 393, 394, 395, 396, 337, 338, 339, 57, 61, 370, 371, 372, 2, 373, 374, 375, 376, 378, 379, 380, 381, 382, 383, 384, 385, 386, 387, 388, 397, 398, 399, 400, 401, 402, 403, 404, 405, 406, 407, 408, 409, 410, 411, 412, 62, 909, 910, 911, 912, 913, 914, 915, 916, 917, 918, 919, 920, 987, 988, 989, 990, 991, 992, 993, 994, 995, 996, 997, 998, 999] (by decide +kernel) (by decide +kernel)
set_option maxRecDepth 20000 in
theorem gL_law_X6_tick : GoodIn wsL_law (wsV RL 57 RX6 yX6_tick wsX6_tick) := goodIn_app (goodIn_of _ (by decide +kernel)) ggL_law_X6_tick
set_option maxRecDepth 20000 in
theorem ggL_law_X7_tick : GoodIn wsL_law wsX7_tick := goodIn_r _ [651, 425, 103, 88, 420, 102, 548, 549, 550, 5, 551, 86, 564, 565, 566, 567, 90, 568, 569, 570, 552, 553, 554, 555, 556, 557, 558, 559, 91, 560, 561, 562, 563, 87, 571, 572, 573, 574, 94, 921, 922, 923, 924, 925, 926, 927, 928, 929, 930, 931, 932, 933, 934, 935, 936, 937, 938, 939, 940, 941, 942, 943, 944, 945, 946, 947, 948, 949, 950, 951, 952, 953, 954, 955, 956, 957, 958, 959, 960, 961, 962, 963, 964, 965, 966, 967, 968, 969] (by decide +kernel) (by decide +kernel)
set_option maxRecDepth 20000 in
theorem gL_law_X7_tick : GoodIn wsL_law (wsV RL 60 RX7 yX7_tick wsX7_tick) := goodIn_app (goodIn_of _ (by decide +kernel)) ggL_law_X7_tick
set_option maxRecDepth 20000 in
theorem ggL_law_X6_worlds : GoodIn wsL_law wsX6_worlds := goodIn_r _ [655, 656, 657, 658, 2, 659, 22, 140, 25, 660, 661, 662, 21, 663, 664, 328, 329, 330, 57, 331, 298, 299, 300, 153, 909, 910, 911, 912, 913, 914, 915, 916, 917, 918, 919, 920, 987, 988, 989, 990, 991, 992, 993, 994, 995, 996, 997, 998, 999] (by decide +kernel) (by decide +kernel)
set_option maxRecDepth 20000 in
theorem gL_law_X6_worlds : GoodIn wsL_law (wsV RL 61 RX6 yX6_worlds wsX6_worlds) := goodIn_app (goodIn_of _ (by decide +kernel)) ggL_law_X6_worlds
set_option maxRecDepth 20000 in
theorem ggL_law_X7_worlds : GoodIn wsL_law wsX7_worlds := goodIn_r _ [668, 669, 670, 671, 672, 5, 673, 425, 102, 107, 548, 549, 550, 551, 86, 420, 921, 922, 923, 924, 925, 926, 927, 928, 929, 930, 931, 932, 933, 934, 935, 936, 937, 938, 939, 940, 941, 942, 943, 944, 945, 946, 947, 948, 949, 950, 951, 952, 953, 954, 955, 956, 957, 958, 959, 960, 961, 962, 963, 964, 965, 966, 967, 968, 969] (by decide +kernel) (by decide +kernel)
set_option maxRecDepth 20000 in
theorem gL_law_X7_worlds : GoodIn wsL_law (wsV RL 64 RX7 yX7_worlds wsX7_worlds) := goodIn_app (goodIn_of _ (by decide +kernel)) ggL_law_X7_worlds
set_option maxRecDepth 20000 in
theorem ggL_law_X6_legal : GoodIn wsL_law wsX6_legal := goodIn_r _ [677, 31, 678, 679, 680, 681, 2, 682, 374, 22, 25, 656, 657, 658, 659, 140, 660, 661, 662, 21, 663, 664, 328, 329, 330, 57, 331, 298, 299, 300, 153, 683, 684, 685, 30, 686, 687, 688, 689, 690, 691, 692, 693, 694, 695, 696, 69, 697, 698, 699, 700, 701, 702, 703, 704, 705, 706, 707, 708, 709, 710, 711, 712, 713, 390, 391, 392, 60, 714, 337, 338, 339, 61, 715, 716, 717, 718, 401, 377, 402, 719, 720, 721, 722, 723, 410, 411, 412, 62, 724, 725, 726, 727, 728, 729, 730, 731, 732, 733, 734, 909, 910, 911, 912, 913, 914, 915, 916, 917, 918, 919, 920, 1000, 1001, 1002, 1003, 1004, 987, 988, 989, 990, 991, 992, 993, 994, 995, 996, 997, 998, 999] (by decide +kernel) (by decide +kernel)
set_option maxRecDepth 20000 in
theorem gL_law_X6_legal : GoodIn wsL_law (wsV RL 65 RX6 yX6_legal wsX6_legal) := goodIn_app (goodIn_of _ (by decide +kernel)) ggL_law_X6_legal
set_option maxRecDepth 20000 in
theorem ggL_law_X7_legal : GoodIn wsL_law wsX7_legal := goodIn_r _ [738, 669, 670, 671, 672, 5, 673, 425, 102, 107, 548, 549, 550, 551, 86, 420, 739, 740, 741, 742, 104, 91, 560, 561, 562, 563, 87, 88, 564, 565, 566, 567, 90, 568, 569, 570, 743, 744, 745, 746, 94, 921, 922, 923, 924, 925, 926, 927, 928, 929, 930, 931, 932, 933, 934, 935, 936, 937, 938, 939, 940, 941, 942, 943, 944, 945, 946, 947, 948, 949, 950, 951, 952, 953, 954, 955, 956, 957, 958, 959, 960, 961, 962, 963, 964, 965, 966, 967, 968, 969] (by decide +kernel) (by decide +kernel)
set_option maxRecDepth 20000 in
theorem gL_law_X7_legal : GoodIn wsL_law (wsV RL 68 RX7 yX7_legal wsX7_legal) := goodIn_app (goodIn_of _ (by decide +kernel)) ggL_law_X7_legal
set_option maxRecDepth 20000 in
theorem ggL_law_X6_sharp : GoodIn wsL_law wsX6_sharp := goodIn_r _ [750, 22, 31, 679, 680, 681, 2, 682, 374, 25, 656, 657, 658, 659, 140, 660, 661, 662, 21, 663, 664, 328, 329, 330, 57, 331, 298, 299, 300, 153, 683, 684, 685, 30, 686, 687, 688, 689, 690, 691, 692, 693, 694, 695, 696, 69, 697, 698, 699, 700, 701, 702, 703, 704, 705, 706, 707, 708, 709, 710, 711, 712, 713, 390, 391, 392, 60, 714, 337, 338, 339, 61, 715, 716, 717, 718, 401, 377, 402, 719, 720, 721, 722, 723, 410, 411, 412, 62, 724, 725, 726, 727, 728, 729, 730, 731, 732, 733, 734, 606, 751, 752, 753, 754, 755, 756, 757, 758, 909, 910, 911, 912, 913, 914, 915, 916, 917, 918, 919, 920, 987, 988, 989, 990, 991, 992, 993, 994, 995, 996, 997, 998, 999, 1000, 1001, 1002, 1003, 1004] (by decide +kernel) (by decide +kernel)
set_option maxRecDepth 20000 in
theorem gL_law_X6_sharp : GoodIn wsL_law (wsV RL 69 RX6 yX6_sharp wsX6_sharp) := goodIn_app (goodIn_of _ (by decide +kernel)) ggL_law_X6_sharp
set_option maxRecDepth 20000 in
theorem ggL_law_X7_sharp : GoodIn wsL_law wsX7_sharp := goodIn_r _ [762, 669, 104, 612, 613, 614, 5, 615, 425, 670, 671, 672, 673, 102, 107, 548, 549, 550, 551, 86, 420, 739, 740, 741, 742, 91, 560, 561, 562, 563, 87, 88, 564, 565, 566, 567, 90, 568, 569, 570, 743, 744, 745, 746, 94, 921, 922, 923, 924, 925, 926, 927, 928, 929, 930, 931, 932, 933, 934, 935, 936, 937, 938, 939, 940, 941, 942, 943, 944, 945, 946, 947, 948, 949, 950, 951, 952, 953, 954, 955, 956, 957, 958, 959, 960, 961, 962, 963, 964, 965, 966, 967, 968, 969] (by decide +kernel) (by decide +kernel)
set_option maxRecDepth 20000 in
theorem gL_law_X7_sharp : GoodIn wsL_law (wsV RL 72 RX7 yX7_sharp wsX7_sharp) := goodIn_app (goodIn_of _ (by decide +kernel)) ggL_law_X7_sharp
set_option maxRecDepth 20000 in
theorem ggL_law_X6_gainsaid : GoodIn wsL_law wsX6_gainsaid := goodIn_r _ [766, 22, 140, 25, 31, 679, 680, 681, 2, 682, 374, 656, 657, 658, 659, 660, 661, 662, 21, 663, 664, 328, 329, 330, 57, 331, 298, 299, 300, 153, 683, 684, 685, 30, 686, 687, 688, 689, 690, 691, 692, 693, 694, 695, 696, 69, 697, 698, 699, 700, 701, 702, 703, 704, 705, 706, 707, 708, 709, 710, 711, 712, 713, 390, 391, 392, 60, 714, 337, 338, 339, 61, 715, 716, 717, 718, 401, 377, 402, 719, 720, 721, 722, 723, 410, 411, 412, 62, 724, 725, 726, 727, 728, 729, 730, 731, 732, 733, 734, 767, 756, 757, 758, 909, 910, 911, 912, 913, 914, 915, 916, 917, 918, 919, 920, 987, 988, 989, 990, 991, 992, 993, 994, 995, 996, 997, 998, 999, 1000, 1001, 1002, 1003, 1004] (by decide +kernel) (by decide +kernel)
set_option maxRecDepth 20000 in
theorem gL_law_X6_gainsaid : GoodIn wsL_law (wsV RL 73 RX6 yX6_gainsaid wsX6_gainsaid) := goodIn_app (goodIn_of _ (by decide +kernel)) ggL_law_X6_gainsaid
set_option maxRecDepth 20000 in
theorem ggL_law_X7_gainsaid : GoodIn wsL_law wsX7_gainsaid := goodIn_r _ [771, 669, 425, 103, 104, 670, 671, 672, 5, 673, 102, 107, 548, 549, 550, 551, 86, 420, 739, 740, 741, 742, 91, 560, 561, 562, 563, 87, 88, 564, 565, 566, 567, 90, 568, 569, 570, 743, 744, 745, 746, 94, 921, 922, 923, 924, 925, 926, 927, 928, 929, 930, 931, 932, 933, 934, 935, 936, 937, 938, 939, 940, 941, 942, 943, 944, 945, 946, 947, 948, 949, 950, 951, 952, 953, 954, 955, 956, 957, 958, 959, 960, 961, 962, 963, 964, 965, 966, 967, 968, 969] (by decide +kernel) (by decide +kernel)
set_option maxRecDepth 20000 in
theorem gL_law_X7_gainsaid : GoodIn wsL_law (wsV RL 76 RX7 yX7_gainsaid wsX7_gainsaid) := goodIn_app (goodIn_of _ (by decide +kernel)) ggL_law_X7_gainsaid
set_option maxRecDepth 20000 in
theorem ggL_law_X6_flicker : GoodIn wsL_law wsX6_flicker := goodIn_r _ [775, 22, 25, 26, 27, 140, 620, 328, 329, 21, 330, 57, 331, 298, 299, 300, 153, 776, 777, 778, 2, 779, 780, 350, 351, 352, 375, 376, 377, 378, 379, 380, 381, 382, 383, 384, 385, 386, 387, 388, 389, 390, 391, 392, 60, 393, 394, 395, 396, 337, 338, 339, 61, 397, 398, 399, 400, 401, 402, 403, 404, 405, 406, 407, 408, 409, 410, 411, 412, 62, 909, 910, 911, 912, 913, 914, 915, 916, 917, 918, 919, 920, 987, 988, 989, 990, 991, 992, 993, 994, 995, 996, 997, 998, 999] (by decide +kernel) (by decide +kernel)
set_option maxRecDepth 20000 in
theorem gL_law_X6_flicker : GoodIn wsL_law (wsV RL 77 RX6 yX6_flicker wsX6_flicker) := goodIn_app (goodIn_of _ (by decide +kernel)) ggL_law_X6_flicker
set_option maxRecDepth 20000 in
theorem ggL_law_X7_flicker : GoodIn wsL_law wsX7_flicker := goodIn_r _ [784, 102, 425, 105, 106, 103, 612, 613, 614, 5, 615, 548, 549, 550, 551, 86, 420, 556, 557, 558, 559, 91, 560, 561, 562, 563, 87, 88, 564, 565, 566, 567, 90, 568, 569, 570, 571, 572, 573, 574, 94, 921, 922, 923, 924, 925, 926, 927, 928, 929, 930, 931, 932, 933, 934, 935, 936, 937, 938, 939, 940, 941, 942, 943, 944, 945, 946, 947, 948, 949, 950, 951, 952, 953, 954, 955, 956, 957, 958, 959, 960, 961, 962, 963, 964, 965, 966, 967, 968, 969] (by decide +kernel) (by decide +kernel)
set_option maxRecDepth 20000 in
theorem gL_law_X7_flicker : GoodIn wsL_law (wsV RL 80 RX7 yX7_flicker wsX7_flicker) := goodIn_app (goodIn_of _ (by decide +kernel)) ggL_law_X7_flicker
set_option maxRecDepth 20000 in
theorem ggL_law_X6_wheel : GoodIn wsL_law wsX6_wheel := goodIn_r _ [788, 35, 22, 25, 141, 789, 790, 791, 34, 792, 793, 794, 795, 796, 73, 74, 77, 75, 909, 910, 911, 912, 913, 914, 915, 916, 917, 918, 919, 920, 1005, 1006, 1007, 1008, 1009, 1010, 1011, 1012, 987, 988, 989, 990, 991, 992, 993, 994, 995, 996, 997, 998, 999] (by decide +kernel) (by decide +kernel)
set_option maxRecDepth 20000 in
theorem gL_law_X6_wheel : GoodIn wsL_law (wsV RL 81 RX6 yX6_wheel wsX6_wheel) := goodIn_app (goodIn_of _ (by decide +kernel)) ggL_law_X6_wheel
set_option maxRecDepth 20000 in
theorem ggL_law_X7_wheel : GoodIn wsL_law wsX7_wheel := goodIn_r _ [800, 427, 801, 802, 425, 108, 103, 109, 113, 112, 110, 921, 922, 923, 924, 925, 926, 927, 928, 929, 930, 931, 932, 933, 934, 935, 936, 937, 938, 939, 940, 941, 942, 943, 944, 945, 946, 947, 948, 949, 950, 951, 952, 953, 954, 955, 956, 957, 958, 959, 960, 961, 962, 963, 964, 965, 966, 967, 968, 969] (by decide +kernel) (by decide +kernel)
set_option maxRecDepth 20000 in
theorem gL_law_X7_wheel : GoodIn wsL_law (wsV RL 85 RX7 yX7_wheel wsX7_wheel) := goodIn_app (goodIn_of _ (by decide +kernel)) ggL_law_X7_wheel
set_option maxRecDepth 20000 in
theorem ggL_law_X6_put : GoodIn wsL_law wsX6_put := goodIn_r _ [806, 141, 22, 35, 620, 328, 329, 21, 330, 57, 331, 298, 299, 300, 153, 807, 808, 809, 34, 810, 73, 795, 77, 76, 793, 909, 910, 911, 912, 913, 914, 915, 916, 917, 918, 919, 920, 987, 988, 989, 990, 991, 992, 993, 994, 995, 996, 997, 998, 999, 1005, 1006, 1007, 1008, 1009, 1010, 1011, 1012] (by decide +kernel) (by decide +kernel)
set_option maxRecDepth 20000 in
theorem gL_law_X6_put : GoodIn wsL_law (wsV RL 86 RX6 yX6_put wsX6_put) := goodIn_app (goodIn_of _ (by decide +kernel)) ggL_law_X6_put
set_option maxRecDepth 20000 in
theorem ggL_law_X7_put : GoodIn wsL_law wsX7_put := goodIn_r _ [814, 427, 108, 612, 613, 614, 5, 615, 425, 548, 549, 550, 551, 86, 420, 815, 816, 817, 818, 113, 112, 111, 801, 921, 922, 923, 924, 925, 926, 927, 928, 929, 930, 931, 932, 933, 934, 935, 936, 937, 938, 939, 940, 941, 942, 943, 944, 945, 946, 947, 948, 949, 950, 951, 952, 953, 954, 955, 956, 957, 958, 959, 960, 961, 962, 963, 964, 965, 966, 967, 968, 969] (by decide +kernel) (by decide +kernel)
set_option maxRecDepth 20000 in
theorem gL_law_X7_put : GoodIn wsL_law (wsV RL 89 RX7 yX7_put wsX7_put) := goodIn_app (goodIn_of _ (by decide +kernel)) ggL_law_X7_put
set_option maxRecDepth 20000 in
theorem ggL_law_X6_run : GoodIn wsL_law wsX6_run := goodIn_r _ [822, 141, 35, 22, 823, 824, 825, 34, 826, 793, 794, 827, 828, 829, 830, 795, 796, 831, 832, 833, 834, 835, 836, 73, 837, 404, 377, 405, 396, 337, 338, 21, 339, 57, 61, 406, 407, 408, 389, 390, 391, 392, 60, 409, 410, 411, 412, 62, 393, 394, 395, 838, 808, 809, 810, 77, 76, 839, 360, 361, 362, 63, 840, 841, 842, 843, 74, 844, 75, 845, 383, 384, 385, 386, 387, 388, 397, 398, 399, 400, 401, 402, 846, 847, 848, 849, 850, 851, 852, 853, 854, 855, 856, 909, 910, 911, 912, 913, 914, 915, 916, 917, 918, 919, 920, 1005, 1006, 1007, 1008, 1009, 1010, 1011, 1012, 987, 988, 989, 990, 991, 992, 993, 994, 995, 996, 997, 998, 999] (by decide +kernel) (by decide +kernel)
set_option maxRecDepth 20000 in
theorem gL_law_X6_run : GoodIn wsL_law (wsV RL 90 RX6 yX6_run wsX6_run) := goodIn_app (goodIn_of _ (by decide +kernel)) ggL_law_X6_run
set_option maxRecDepth 20000 in
theorem ggL_law_X7_run : GoodIn wsL_law wsX7_run := goodIn_r _ [860, 427, 801, 425, 110, 802, 108, 861, 862, 863, 5, 864, 91, 420, 109, 89, 113, 548, 549, 550, 551, 86, 571, 572, 573, 574, 88, 94, 564, 565, 566, 567, 90, 568, 569, 570, 865, 866, 867, 868, 536, 537, 538, 539, 815, 816, 817, 818, 112, 111, 560, 561, 562, 563, 87, 921, 922, 923, 924, 925, 926, 927, 928, 929, 930, 931, 932, 933, 934, 935, 936, 937, 938, 939, 940, 941, 942, 943, 944, 945, 946, 947, 948, 949, 950, 951, 952, 953, 954, 955, 956, 957, 958, 959, 960, 961, 962, 963, 964, 965, 966, 967, 968, 969] (by decide +kernel) (by decide +kernel)
set_option maxRecDepth 20000 in
theorem gL_law_X7_run : GoodIn wsL_law (wsV RL 93 RX7 yX7_run wsX7_run) := goodIn_app (goodIn_of _ (by decide +kernel)) ggL_law_X7_run
set_option maxRecDepth 20000 in
theorem ggL_law_X6_on : GoodIn wsL_law wsX6_on := goodIn_r _ [872, 141, 22, 35, 873, 606, 298, 299, 21, 300, 153, 909, 910, 911, 912, 913, 914, 915, 916, 917, 918, 919, 920, 1005, 1006, 1007, 1008, 1009, 1010, 1011, 1012, 987, 988, 989, 990, 991, 992, 993, 994, 995, 996, 997, 998, 999] (by decide +kernel) (by decide +kernel)
set_option maxRecDepth 20000 in
theorem gL_law_X6_on : GoodIn wsL_law (wsV RL 94 RX6 yX6_on wsX6_on) := goodIn_app (goodIn_of _ (by decide +kernel)) ggL_law_X6_on
set_option maxRecDepth 20000 in
theorem ggL_law_X7_on : GoodIn wsL_law wsX7_on := goodIn_r _ [877, 427, 108, 612, 613, 614, 5, 615, 425, 921, 922, 923, 924, 925, 926, 927, 928, 929, 930, 931, 932, 933, 934, 935, 936, 937, 938, 939, 940, 941, 942, 943, 944, 945, 946, 947, 948, 949, 950, 951, 952, 953, 954, 955, 956, 957, 958, 959, 960, 961, 962, 963, 964, 965, 966, 967, 968, 969] (by decide +kernel) (by decide +kernel)
set_option maxRecDepth 20000 in
theorem gL_law_X7_on : GoodIn wsL_law (wsV RL 97 RX7 yX7_on wsX7_on) := goodIn_app (goodIn_of _ (by decide +kernel)) ggL_law_X7_on
set_option maxRecDepth 20000 in
theorem ggL_law_X6_wave : GoodIn wsL_law wsX6_wave := goodIn_r _ [881, 141, 22, 35, 606, 298, 299, 21, 300, 153, 882, 883, 884, 34, 885, 77, 76, 909, 910, 911, 912, 913, 914, 915, 916, 917, 918, 919, 920, 987, 988, 989, 990, 991, 992, 993, 994, 995, 996, 997, 998, 999, 1005, 1006, 1007, 1008, 1009, 1010, 1011, 1012] (by decide +kernel) (by decide +kernel)
set_option maxRecDepth 20000 in
theorem gL_law_X6_wave : GoodIn wsL_law (wsV RL 98 RX6 yX6_wave wsX6_wave) := goodIn_app (goodIn_of _ (by decide +kernel)) ggL_law_X6_wave
set_option maxRecDepth 20000 in
theorem ggL_law_X7_wave : GoodIn wsL_law wsX7_wave := goodIn_r _ [889, 427, 112, 111, 612, 613, 614, 5, 615, 425, 921, 922, 923, 924, 925, 926, 927, 928, 929, 930, 931, 932, 933, 934, 935, 936, 937, 938, 939, 940, 941, 942, 943, 944, 945, 946, 947, 948, 949, 950, 951, 952, 953, 954, 955, 956, 957, 958, 959, 960, 961, 962, 963, 964, 965, 966, 967, 968, 969] (by decide +kernel) (by decide +kernel)
set_option maxRecDepth 20000 in
theorem gL_law_X7_wave : GoodIn wsL_law (wsV RL 101 RX7 yX7_wave wsX7_wave) := goodIn_app (goodIn_of _ (by decide +kernel)) ggL_law_X7_wave
set_option maxRecDepth 20000 in
theorem ggL_law_X6_about : GoodIn wsL_law wsX6_about := goodIn_r _ [893, 22, 140, 894, 141, 35, 895, 896, 897, 898, 899, 34, 900, 794, 795, 656, 657, 658, 2, 659, 25, 660, 661, 662, 21, 663, 664, 328, 329, 330, 57, 331, 298, 299, 300, 153, 909, 910, 911, 912, 913, 914, 915, 916, 917, 918, 919, 920, 987, 988, 989, 990, 991, 992, 993, 994, 995, 996, 997, 998, 999, 1005, 1006, 1007, 1008, 1009, 1010, 1011, 1012] (by decide +kernel) (by decide +kernel)
set_option maxRecDepth 20000 in
theorem gL_law_X6_about : GoodIn wsL_law (wsV RL 102 RX6 yX6_about wsX6_about) := goodIn_app (goodIn_of _ (by decide +kernel)) ggL_law_X6_about
set_option maxRecDepth 20000 in
theorem ggL_law_X7_about : GoodIn wsL_law wsX7_about := goodIn_r _ [904, 425, 426, 427, 801, 802, 669, 670, 671, 672, 5, 673, 102, 107, 548, 549, 550, 551, 86, 420, 905, 906, 907, 908, 113, 921, 922, 923, 924, 925, 926, 927, 928, 929, 930, 931, 932, 933, 934, 935, 936, 937, 938, 939, 940, 941, 942, 943, 944, 945, 946, 947, 948, 949, 950, 951, 952, 953, 954, 955, 956, 957, 958, 959, 960, 961, 962, 963, 964, 965, 966, 967, 968, 969] (by decide +kernel) (by decide +kernel)
set_option maxRecDepth 20000 in
theorem gL_law_X7_about : GoodIn wsL_law (wsV RL 105 RX7 yX7_about wsX7_about) := goodIn_app (goodIn_of _ (by decide +kernel)) ggL_law_X7_about
theorem dL_law_0 : decode cL_law 0 = .ok (.new 7, 3) := by decide +kernel
theorem dL_law_3 : decode cL_law 3 = .ok (.dup, 1) := by decide +kernel
theorem dL_law_4 : decode cL_law 4 = .ok (.invokespecial 9, 3) := by decide +kernel
theorem dL_law_7 : decode cL_law 7 = .ok (.astore_n 1, 1) := by decide +kernel
theorem dL_law_8 : decode cL_law 8 = .ok (.new 10, 3) := by decide +kernel
theorem dL_law_11 : decode cL_law 11 = .ok (.dup, 1) := by decide +kernel
theorem dL_law_12 : decode cL_law 12 = .ok (.invokespecial 12, 3) := by decide +kernel
theorem dL_law_15 : decode cL_law 15 = .ok (.astore_n 2, 1) := by decide +kernel
theorem dL_law_16 : decode cL_law 16 = .ok (.iconst 0, 1) := by decide +kernel
theorem dL_law_17 : decode cL_law 17 = .ok (.istore_n 3, 1) := by decide +kernel
theorem dL_law_18 : decode cL_law 18 = .ok (.iload_n 3, 1) := by decide +kernel
theorem dL_law_19 : decode cL_law 19 = .ok (.aload_n 0, 1) := by decide +kernel
theorem dL_law_20 : decode cL_law 20 = .ok (.arraylength, 1) := by decide +kernel
theorem dL_law_21 : decode cL_law 21 = .ok (.bipush 6, 2) := by decide +kernel
theorem dL_law_23 : decode cL_law 23 = .ok (.isub, 1) := by decide +kernel
theorem dL_law_24 : decode cL_law 24 = .ok (.if_icmp .gt 667, 3) := by decide +kernel
theorem dL_law_27 : decode cL_law 27 = .ok (.aload_n 0, 1) := by decide +kernel
theorem dL_law_28 : decode cL_law 28 = .ok (.iload_n 3, 1) := by decide +kernel
theorem dL_law_29 : decode cL_law 29 = .ok (.iaload, 1) := by decide +kernel
theorem dL_law_30 : decode cL_law 30 = .ok (.bipush 31, 2) := by decide +kernel
theorem dL_law_32 : decode cL_law 32 = .ok (.iand, 1) := by decide +kernel
theorem dL_law_33 : decode cL_law 33 = .ok (.tableswitch 652 0 20 #[99, 162, 185, 198, 221, 274, 307, 340, 373, 396, 409, 422, 435, 458, 471, 504, 517, 550, 573, 596, 629], 99) := by decide +kernel
theorem dL_law_132 : decode cL_law 132 = .ok (.aload_n 1, 1) := by decide +kernel
theorem dL_law_133 : decode cL_law 133 = .ok (.aload_n 0, 1) := by decide +kernel
theorem dL_law_134 : decode cL_law 134 = .ok (.iload_n 3, 1) := by decide +kernel
theorem dL_law_135 : decode cL_law 135 = .ok (.iconst 1, 1) := by decide +kernel
theorem dL_law_136 : decode cL_law 136 = .ok (.iadd, 1) := by decide +kernel
theorem dL_law_137 : decode cL_law 137 = .ok (.iaload, 1) := by decide +kernel
theorem dL_law_138 : decode cL_law 138 = .ok (.aload_n 0, 1) := by decide +kernel
theorem dL_law_139 : decode cL_law 139 = .ok (.iload_n 3, 1) := by decide +kernel
theorem dL_law_140 : decode cL_law 140 = .ok (.iconst 2, 1) := by decide +kernel
theorem dL_law_141 : decode cL_law 141 = .ok (.iadd, 1) := by decide +kernel
theorem dL_law_142 : decode cL_law 142 = .ok (.iaload, 1) := by decide +kernel
theorem dL_law_143 : decode cL_law 143 = .ok (.aload_n 0, 1) := by decide +kernel
theorem dL_law_144 : decode cL_law 144 = .ok (.iload_n 3, 1) := by decide +kernel
theorem dL_law_145 : decode cL_law 145 = .ok (.iconst 3, 1) := by decide +kernel
theorem dL_law_146 : decode cL_law 146 = .ok (.iadd, 1) := by decide +kernel
theorem dL_law_147 : decode cL_law 147 = .ok (.iaload, 1) := by decide +kernel
theorem dL_law_148 : decode cL_law 148 = .ok (.aload_n 0, 1) := by decide +kernel
theorem dL_law_149 : decode cL_law 149 = .ok (.iload_n 3, 1) := by decide +kernel
theorem dL_law_150 : decode cL_law 150 = .ok (.iconst 4, 1) := by decide +kernel
theorem dL_law_151 : decode cL_law 151 = .ok (.iadd, 1) := by decide +kernel
theorem dL_law_152 : decode cL_law 152 = .ok (.iaload, 1) := by decide +kernel
theorem dL_law_153 : decode cL_law 153 = .ok (.aload_n 0, 1) := by decide +kernel
theorem dL_law_154 : decode cL_law 154 = .ok (.iload_n 3, 1) := by decide +kernel
theorem dL_law_155 : decode cL_law 155 = .ok (.iconst 5, 1) := by decide +kernel
theorem dL_law_156 : decode cL_law 156 = .ok (.iadd, 1) := by decide +kernel
theorem dL_law_157 : decode cL_law 157 = .ok (.iaload, 1) := by decide +kernel
theorem dL_law_158 : decode cL_law 158 = .ok (.invokevirtual 13, 3) := by decide +kernel
theorem dL_law_161 : decode cL_law 161 = .ok (.aload_n 2, 1) := by decide +kernel
theorem dL_law_162 : decode cL_law 162 = .ok (.aload_n 0, 1) := by decide +kernel
theorem dL_law_163 : decode cL_law 163 = .ok (.iload_n 3, 1) := by decide +kernel
theorem dL_law_164 : decode cL_law 164 = .ok (.iconst 1, 1) := by decide +kernel
theorem dL_law_165 : decode cL_law 165 = .ok (.iadd, 1) := by decide +kernel
theorem dL_law_166 : decode cL_law 166 = .ok (.iaload, 1) := by decide +kernel
theorem dL_law_167 : decode cL_law 167 = .ok (.aload_n 0, 1) := by decide +kernel
theorem dL_law_168 : decode cL_law 168 = .ok (.iload_n 3, 1) := by decide +kernel
theorem dL_law_169 : decode cL_law 169 = .ok (.iconst 2, 1) := by decide +kernel
theorem dL_law_170 : decode cL_law 170 = .ok (.iadd, 1) := by decide +kernel
theorem dL_law_171 : decode cL_law 171 = .ok (.iaload, 1) := by decide +kernel
theorem dL_law_172 : decode cL_law 172 = .ok (.aload_n 0, 1) := by decide +kernel
theorem dL_law_173 : decode cL_law 173 = .ok (.iload_n 3, 1) := by decide +kernel
theorem dL_law_174 : decode cL_law 174 = .ok (.iconst 3, 1) := by decide +kernel
theorem dL_law_175 : decode cL_law 175 = .ok (.iadd, 1) := by decide +kernel
theorem dL_law_176 : decode cL_law 176 = .ok (.iaload, 1) := by decide +kernel
theorem dL_law_177 : decode cL_law 177 = .ok (.aload_n 0, 1) := by decide +kernel
theorem dL_law_178 : decode cL_law 178 = .ok (.iload_n 3, 1) := by decide +kernel
theorem dL_law_179 : decode cL_law 179 = .ok (.iconst 4, 1) := by decide +kernel
theorem dL_law_180 : decode cL_law 180 = .ok (.iadd, 1) := by decide +kernel
theorem dL_law_181 : decode cL_law 181 = .ok (.iaload, 1) := by decide +kernel
theorem dL_law_182 : decode cL_law 182 = .ok (.aload_n 0, 1) := by decide +kernel
theorem dL_law_183 : decode cL_law 183 = .ok (.iload_n 3, 1) := by decide +kernel
theorem dL_law_184 : decode cL_law 184 = .ok (.iconst 5, 1) := by decide +kernel
theorem dL_law_185 : decode cL_law 185 = .ok (.iadd, 1) := by decide +kernel
theorem dL_law_186 : decode cL_law 186 = .ok (.iaload, 1) := by decide +kernel
theorem dL_law_187 : decode cL_law 187 = .ok (.invokevirtual 17, 3) := by decide +kernel
theorem dL_law_190 : decode cL_law 190 = .ok (.if_icmp .eq 495, 3) := by decide +kernel
theorem dL_law_193 : decode cL_law 193 = .ok (.iconst 0, 1) := by decide +kernel
theorem dL_law_194 : decode cL_law 194 = .ok (.ireturn, 1) := by decide +kernel
theorem dL_law_195 : decode cL_law 195 = .ok (.aload_n 1, 1) := by decide +kernel
theorem dL_law_196 : decode cL_law 196 = .ok (.aload_n 0, 1) := by decide +kernel
theorem dL_law_197 : decode cL_law 197 = .ok (.iload_n 3, 1) := by decide +kernel
theorem dL_law_198 : decode cL_law 198 = .ok (.iconst 1, 1) := by decide +kernel
theorem dL_law_199 : decode cL_law 199 = .ok (.iadd, 1) := by decide +kernel
theorem dL_law_200 : decode cL_law 200 = .ok (.iaload, 1) := by decide +kernel
theorem dL_law_201 : decode cL_law 201 = .ok (.invokevirtual 18, 3) := by decide +kernel
theorem dL_law_204 : decode cL_law 204 = .ok (.aload_n 2, 1) := by decide +kernel
theorem dL_law_205 : decode cL_law 205 = .ok (.aload_n 0, 1) := by decide +kernel
theorem dL_law_206 : decode cL_law 206 = .ok (.iload_n 3, 1) := by decide +kernel
theorem dL_law_207 : decode cL_law 207 = .ok (.iconst 1, 1) := by decide +kernel
theorem dL_law_208 : decode cL_law 208 = .ok (.iadd, 1) := by decide +kernel
theorem dL_law_209 : decode cL_law 209 = .ok (.iaload, 1) := by decide +kernel
theorem dL_law_210 : decode cL_law 210 = .ok (.invokevirtual 22, 3) := by decide +kernel
theorem dL_law_213 : decode cL_law 213 = .ok (.if_icmp .eq 472, 3) := by decide +kernel
theorem dL_law_216 : decode cL_law 216 = .ok (.iconst 0, 1) := by decide +kernel
theorem dL_law_217 : decode cL_law 217 = .ok (.ireturn, 1) := by decide +kernel
theorem dL_law_218 : decode cL_law 218 = .ok (.aload_n 1, 1) := by decide +kernel
theorem dL_law_219 : decode cL_law 219 = .ok (.invokevirtual 23, 3) := by decide +kernel
theorem dL_law_222 : decode cL_law 222 = .ok (.aload_n 2, 1) := by decide +kernel
theorem dL_law_223 : decode cL_law 223 = .ok (.invokevirtual 27, 3) := by decide +kernel
theorem dL_law_226 : decode cL_law 226 = .ok (.if_icmp .eq 459, 3) := by decide +kernel
theorem dL_law_229 : decode cL_law 229 = .ok (.iconst 0, 1) := by decide +kernel
theorem dL_law_230 : decode cL_law 230 = .ok (.ireturn, 1) := by decide +kernel
theorem dL_law_231 : decode cL_law 231 = .ok (.aload_n 1, 1) := by decide +kernel
theorem dL_law_232 : decode cL_law 232 = .ok (.aload_n 0, 1) := by decide +kernel
theorem dL_law_233 : decode cL_law 233 = .ok (.iload_n 3, 1) := by decide +kernel
theorem dL_law_234 : decode cL_law 234 = .ok (.iconst 1, 1) := by decide +kernel
theorem dL_law_235 : decode cL_law 235 = .ok (.iadd, 1) := by decide +kernel
theorem dL_law_236 : decode cL_law 236 = .ok (.iaload, 1) := by decide +kernel
theorem dL_law_237 : decode cL_law 237 = .ok (.invokevirtual 28, 3) := by decide +kernel
theorem dL_law_240 : decode cL_law 240 = .ok (.aload_n 2, 1) := by decide +kernel
theorem dL_law_241 : decode cL_law 241 = .ok (.aload_n 0, 1) := by decide +kernel
theorem dL_law_242 : decode cL_law 242 = .ok (.iload_n 3, 1) := by decide +kernel
theorem dL_law_243 : decode cL_law 243 = .ok (.iconst 1, 1) := by decide +kernel
theorem dL_law_244 : decode cL_law 244 = .ok (.iadd, 1) := by decide +kernel
theorem dL_law_245 : decode cL_law 245 = .ok (.iaload, 1) := by decide +kernel
theorem dL_law_246 : decode cL_law 246 = .ok (.invokevirtual 31, 3) := by decide +kernel
theorem dL_law_249 : decode cL_law 249 = .ok (.if_icmp .eq 436, 3) := by decide +kernel
theorem dL_law_252 : decode cL_law 252 = .ok (.iconst 0, 1) := by decide +kernel
theorem dL_law_253 : decode cL_law 253 = .ok (.ireturn, 1) := by decide +kernel
theorem dL_law_254 : decode cL_law 254 = .ok (.aload_n 1, 1) := by decide +kernel
theorem dL_law_255 : decode cL_law 255 = .ok (.aload_n 0, 1) := by decide +kernel
theorem dL_law_256 : decode cL_law 256 = .ok (.iload_n 3, 1) := by decide +kernel
theorem dL_law_257 : decode cL_law 257 = .ok (.iconst 1, 1) := by decide +kernel
theorem dL_law_258 : decode cL_law 258 = .ok (.iadd, 1) := by decide +kernel
theorem dL_law_259 : decode cL_law 259 = .ok (.iaload, 1) := by decide +kernel
theorem dL_law_260 : decode cL_law 260 = .ok (.i2l, 1) := by decide +kernel
theorem dL_law_261 : decode cL_law 261 = .ok (.bipush 32, 2) := by decide +kernel
theorem dL_law_263 : decode cL_law 263 = .ok (.lshl, 1) := by decide +kernel
theorem dL_law_264 : decode cL_law 264 = .ok (.aload_n 0, 1) := by decide +kernel
theorem dL_law_265 : decode cL_law 265 = .ok (.iload_n 3, 1) := by decide +kernel
theorem dL_law_266 : decode cL_law 266 = .ok (.iconst 2, 1) := by decide +kernel
theorem dL_law_267 : decode cL_law 267 = .ok (.iadd, 1) := by decide +kernel
theorem dL_law_268 : decode cL_law 268 = .ok (.iaload, 1) := by decide +kernel
theorem dL_law_269 : decode cL_law 269 = .ok (.i2l, 1) := by decide +kernel
theorem dL_law_270 : decode cL_law 270 = .ok (.ldc2_w 32, 3) := by decide +kernel
theorem dL_law_273 : decode cL_law 273 = .ok (.land, 1) := by decide +kernel
theorem dL_law_274 : decode cL_law 274 = .ok (.lor, 1) := by decide +kernel
theorem dL_law_275 : decode cL_law 275 = .ok (.invokevirtual 34, 3) := by decide +kernel
theorem dL_law_278 : decode cL_law 278 = .ok (.aload_n 2, 1) := by decide +kernel
theorem dL_law_279 : decode cL_law 279 = .ok (.aload_n 0, 1) := by decide +kernel
theorem dL_law_280 : decode cL_law 280 = .ok (.iload_n 3, 1) := by decide +kernel
theorem dL_law_281 : decode cL_law 281 = .ok (.iconst 1, 1) := by decide +kernel
theorem dL_law_282 : decode cL_law 282 = .ok (.iadd, 1) := by decide +kernel
theorem dL_law_283 : decode cL_law 283 = .ok (.iaload, 1) := by decide +kernel
theorem dL_law_284 : decode cL_law 284 = .ok (.i2l, 1) := by decide +kernel
theorem dL_law_285 : decode cL_law 285 = .ok (.bipush 32, 2) := by decide +kernel
theorem dL_law_287 : decode cL_law 287 = .ok (.lshl, 1) := by decide +kernel
theorem dL_law_288 : decode cL_law 288 = .ok (.aload_n 0, 1) := by decide +kernel
theorem dL_law_289 : decode cL_law 289 = .ok (.iload_n 3, 1) := by decide +kernel
theorem dL_law_290 : decode cL_law 290 = .ok (.iconst 2, 1) := by decide +kernel
theorem dL_law_291 : decode cL_law 291 = .ok (.iadd, 1) := by decide +kernel
theorem dL_law_292 : decode cL_law 292 = .ok (.iaload, 1) := by decide +kernel
theorem dL_law_293 : decode cL_law 293 = .ok (.i2l, 1) := by decide +kernel
theorem dL_law_294 : decode cL_law 294 = .ok (.ldc2_w 32, 3) := by decide +kernel
theorem dL_law_297 : decode cL_law 297 = .ok (.land, 1) := by decide +kernel
theorem dL_law_298 : decode cL_law 298 = .ok (.lor, 1) := by decide +kernel
theorem dL_law_299 : decode cL_law 299 = .ok (.invokevirtual 38, 3) := by decide +kernel
theorem dL_law_302 : decode cL_law 302 = .ok (.if_icmp .eq 383, 3) := by decide +kernel
theorem dL_law_305 : decode cL_law 305 = .ok (.iconst 0, 1) := by decide +kernel
theorem dL_law_306 : decode cL_law 306 = .ok (.ireturn, 1) := by decide +kernel
theorem dL_law_307 : decode cL_law 307 = .ok (.aload_n 1, 1) := by decide +kernel
theorem dL_law_308 : decode cL_law 308 = .ok (.aload_n 0, 1) := by decide +kernel
theorem dL_law_309 : decode cL_law 309 = .ok (.iload_n 3, 1) := by decide +kernel
theorem dL_law_310 : decode cL_law 310 = .ok (.iconst 1, 1) := by decide +kernel
theorem dL_law_311 : decode cL_law 311 = .ok (.iadd, 1) := by decide +kernel
theorem dL_law_312 : decode cL_law 312 = .ok (.iaload, 1) := by decide +kernel
theorem dL_law_313 : decode cL_law 313 = .ok (.aload_n 0, 1) := by decide +kernel
theorem dL_law_314 : decode cL_law 314 = .ok (.iload_n 3, 1) := by decide +kernel
theorem dL_law_315 : decode cL_law 315 = .ok (.iconst 2, 1) := by decide +kernel
theorem dL_law_316 : decode cL_law 316 = .ok (.iadd, 1) := by decide +kernel
theorem dL_law_317 : decode cL_law 317 = .ok (.iaload, 1) := by decide +kernel
theorem dL_law_318 : decode cL_law 318 = .ok (.invokevirtual 39, 3) := by decide +kernel
theorem dL_law_321 : decode cL_law 321 = .ok (.aload_n 2, 1) := by decide +kernel
theorem dL_law_322 : decode cL_law 322 = .ok (.aload_n 0, 1) := by decide +kernel
theorem dL_law_323 : decode cL_law 323 = .ok (.iload_n 3, 1) := by decide +kernel
theorem dL_law_324 : decode cL_law 324 = .ok (.iconst 1, 1) := by decide +kernel
theorem dL_law_325 : decode cL_law 325 = .ok (.iadd, 1) := by decide +kernel
theorem dL_law_326 : decode cL_law 326 = .ok (.iaload, 1) := by decide +kernel
theorem dL_law_327 : decode cL_law 327 = .ok (.aload_n 0, 1) := by decide +kernel
theorem dL_law_328 : decode cL_law 328 = .ok (.iload_n 3, 1) := by decide +kernel
theorem dL_law_329 : decode cL_law 329 = .ok (.iconst 2, 1) := by decide +kernel
theorem dL_law_330 : decode cL_law 330 = .ok (.iadd, 1) := by decide +kernel
theorem dL_law_331 : decode cL_law 331 = .ok (.iaload, 1) := by decide +kernel
theorem dL_law_332 : decode cL_law 332 = .ok (.invokevirtual 43, 3) := by decide +kernel
theorem dL_law_335 : decode cL_law 335 = .ok (.if_icmp .eq 350, 3) := by decide +kernel
theorem dL_law_338 : decode cL_law 338 = .ok (.iconst 0, 1) := by decide +kernel
theorem dL_law_339 : decode cL_law 339 = .ok (.ireturn, 1) := by decide +kernel
theorem dL_law_340 : decode cL_law 340 = .ok (.aload_n 1, 1) := by decide +kernel
theorem dL_law_341 : decode cL_law 341 = .ok (.aload_n 0, 1) := by decide +kernel
theorem dL_law_342 : decode cL_law 342 = .ok (.iload_n 3, 1) := by decide +kernel
theorem dL_law_343 : decode cL_law 343 = .ok (.iconst 1, 1) := by decide +kernel
theorem dL_law_344 : decode cL_law 344 = .ok (.iadd, 1) := by decide +kernel
theorem dL_law_345 : decode cL_law 345 = .ok (.iaload, 1) := by decide +kernel
theorem dL_law_346 : decode cL_law 346 = .ok (.aload_n 0, 1) := by decide +kernel
theorem dL_law_347 : decode cL_law 347 = .ok (.iload_n 3, 1) := by decide +kernel
theorem dL_law_348 : decode cL_law 348 = .ok (.iconst 2, 1) := by decide +kernel
theorem dL_law_349 : decode cL_law 349 = .ok (.iadd, 1) := by decide +kernel
theorem dL_law_350 : decode cL_law 350 = .ok (.iaload, 1) := by decide +kernel
theorem dL_law_351 : decode cL_law 351 = .ok (.invokevirtual 44, 3) := by decide +kernel
theorem dL_law_354 : decode cL_law 354 = .ok (.aload_n 2, 1) := by decide +kernel
theorem dL_law_355 : decode cL_law 355 = .ok (.aload_n 0, 1) := by decide +kernel
theorem dL_law_356 : decode cL_law 356 = .ok (.iload_n 3, 1) := by decide +kernel
theorem dL_law_357 : decode cL_law 357 = .ok (.iconst 1, 1) := by decide +kernel
theorem dL_law_358 : decode cL_law 358 = .ok (.iadd, 1) := by decide +kernel
theorem dL_law_359 : decode cL_law 359 = .ok (.iaload, 1) := by decide +kernel
theorem dL_law_360 : decode cL_law 360 = .ok (.aload_n 0, 1) := by decide +kernel
theorem dL_law_361 : decode cL_law 361 = .ok (.iload_n 3, 1) := by decide +kernel
theorem dL_law_362 : decode cL_law 362 = .ok (.iconst 2, 1) := by decide +kernel
theorem dL_law_363 : decode cL_law 363 = .ok (.iadd, 1) := by decide +kernel
theorem dL_law_364 : decode cL_law 364 = .ok (.iaload, 1) := by decide +kernel
theorem dL_law_365 : decode cL_law 365 = .ok (.invokevirtual 48, 3) := by decide +kernel
theorem dL_law_368 : decode cL_law 368 = .ok (.if_icmp .eq 317, 3) := by decide +kernel
theorem dL_law_371 : decode cL_law 371 = .ok (.iconst 0, 1) := by decide +kernel
theorem dL_law_372 : decode cL_law 372 = .ok (.ireturn, 1) := by decide +kernel
theorem dL_law_373 : decode cL_law 373 = .ok (.aload_n 1, 1) := by decide +kernel
theorem dL_law_374 : decode cL_law 374 = .ok (.aload_n 0, 1) := by decide +kernel
theorem dL_law_375 : decode cL_law 375 = .ok (.iload_n 3, 1) := by decide +kernel
theorem dL_law_376 : decode cL_law 376 = .ok (.iconst 1, 1) := by decide +kernel
theorem dL_law_377 : decode cL_law 377 = .ok (.iadd, 1) := by decide +kernel
theorem dL_law_378 : decode cL_law 378 = .ok (.iaload, 1) := by decide +kernel
theorem dL_law_379 : decode cL_law 379 = .ok (.aload_n 0, 1) := by decide +kernel
theorem dL_law_380 : decode cL_law 380 = .ok (.iload_n 3, 1) := by decide +kernel
theorem dL_law_381 : decode cL_law 381 = .ok (.iconst 2, 1) := by decide +kernel
theorem dL_law_382 : decode cL_law 382 = .ok (.iadd, 1) := by decide +kernel
theorem dL_law_383 : decode cL_law 383 = .ok (.iaload, 1) := by decide +kernel
theorem dL_law_384 : decode cL_law 384 = .ok (.invokevirtual 49, 3) := by decide +kernel
theorem dL_law_387 : decode cL_law 387 = .ok (.aload_n 2, 1) := by decide +kernel
theorem dL_law_388 : decode cL_law 388 = .ok (.aload_n 0, 1) := by decide +kernel
theorem dL_law_389 : decode cL_law 389 = .ok (.iload_n 3, 1) := by decide +kernel
theorem dL_law_390 : decode cL_law 390 = .ok (.iconst 1, 1) := by decide +kernel
theorem dL_law_391 : decode cL_law 391 = .ok (.iadd, 1) := by decide +kernel
theorem dL_law_392 : decode cL_law 392 = .ok (.iaload, 1) := by decide +kernel
theorem dL_law_393 : decode cL_law 393 = .ok (.aload_n 0, 1) := by decide +kernel
theorem dL_law_394 : decode cL_law 394 = .ok (.iload_n 3, 1) := by decide +kernel
theorem dL_law_395 : decode cL_law 395 = .ok (.iconst 2, 1) := by decide +kernel
theorem dL_law_396 : decode cL_law 396 = .ok (.iadd, 1) := by decide +kernel
theorem dL_law_397 : decode cL_law 397 = .ok (.iaload, 1) := by decide +kernel
theorem dL_law_398 : decode cL_law 398 = .ok (.invokevirtual 52, 3) := by decide +kernel
theorem dL_law_401 : decode cL_law 401 = .ok (.if_icmp .eq 284, 3) := by decide +kernel
theorem dL_law_404 : decode cL_law 404 = .ok (.iconst 0, 1) := by decide +kernel
theorem dL_law_405 : decode cL_law 405 = .ok (.ireturn, 1) := by decide +kernel
theorem dL_law_406 : decode cL_law 406 = .ok (.aload_n 1, 1) := by decide +kernel
theorem dL_law_407 : decode cL_law 407 = .ok (.aload_n 0, 1) := by decide +kernel
theorem dL_law_408 : decode cL_law 408 = .ok (.iload_n 3, 1) := by decide +kernel
theorem dL_law_409 : decode cL_law 409 = .ok (.iconst 1, 1) := by decide +kernel
theorem dL_law_410 : decode cL_law 410 = .ok (.iadd, 1) := by decide +kernel
theorem dL_law_411 : decode cL_law 411 = .ok (.iaload, 1) := by decide +kernel
theorem dL_law_412 : decode cL_law 412 = .ok (.invokevirtual 53, 3) := by decide +kernel
theorem dL_law_415 : decode cL_law 415 = .ok (.aload_n 2, 1) := by decide +kernel
theorem dL_law_416 : decode cL_law 416 = .ok (.aload_n 0, 1) := by decide +kernel
theorem dL_law_417 : decode cL_law 417 = .ok (.iload_n 3, 1) := by decide +kernel
theorem dL_law_418 : decode cL_law 418 = .ok (.iconst 1, 1) := by decide +kernel
theorem dL_law_419 : decode cL_law 419 = .ok (.iadd, 1) := by decide +kernel
theorem dL_law_420 : decode cL_law 420 = .ok (.iaload, 1) := by decide +kernel
theorem dL_law_421 : decode cL_law 421 = .ok (.invokevirtual 56, 3) := by decide +kernel
theorem dL_law_424 : decode cL_law 424 = .ok (.if_icmp .eq 261, 3) := by decide +kernel
theorem dL_law_427 : decode cL_law 427 = .ok (.iconst 0, 1) := by decide +kernel
theorem dL_law_428 : decode cL_law 428 = .ok (.ireturn, 1) := by decide +kernel
theorem dL_law_429 : decode cL_law 429 = .ok (.aload_n 1, 1) := by decide +kernel
theorem dL_law_430 : decode cL_law 430 = .ok (.invokevirtual 57, 3) := by decide +kernel
theorem dL_law_433 : decode cL_law 433 = .ok (.aload_n 2, 1) := by decide +kernel
theorem dL_law_434 : decode cL_law 434 = .ok (.invokevirtual 60, 3) := by decide +kernel
theorem dL_law_437 : decode cL_law 437 = .ok (.if_icmp .eq 248, 3) := by decide +kernel
theorem dL_law_440 : decode cL_law 440 = .ok (.iconst 0, 1) := by decide +kernel
theorem dL_law_441 : decode cL_law 441 = .ok (.ireturn, 1) := by decide +kernel
theorem dL_law_442 : decode cL_law 442 = .ok (.aload_n 1, 1) := by decide +kernel
theorem dL_law_443 : decode cL_law 443 = .ok (.invokevirtual 61, 3) := by decide +kernel
theorem dL_law_446 : decode cL_law 446 = .ok (.aload_n 2, 1) := by decide +kernel
theorem dL_law_447 : decode cL_law 447 = .ok (.invokevirtual 64, 3) := by decide +kernel
theorem dL_law_450 : decode cL_law 450 = .ok (.if_icmp .eq 235, 3) := by decide +kernel
theorem dL_law_453 : decode cL_law 453 = .ok (.iconst 0, 1) := by decide +kernel
theorem dL_law_454 : decode cL_law 454 = .ok (.ireturn, 1) := by decide +kernel
theorem dL_law_455 : decode cL_law 455 = .ok (.aload_n 1, 1) := by decide +kernel
theorem dL_law_456 : decode cL_law 456 = .ok (.invokevirtual 65, 3) := by decide +kernel
theorem dL_law_459 : decode cL_law 459 = .ok (.aload_n 2, 1) := by decide +kernel
theorem dL_law_460 : decode cL_law 460 = .ok (.invokevirtual 68, 3) := by decide +kernel
theorem dL_law_463 : decode cL_law 463 = .ok (.if_icmp .eq 222, 3) := by decide +kernel
theorem dL_law_466 : decode cL_law 466 = .ok (.iconst 0, 1) := by decide +kernel
theorem dL_law_467 : decode cL_law 467 = .ok (.ireturn, 1) := by decide +kernel
theorem dL_law_468 : decode cL_law 468 = .ok (.aload_n 1, 1) := by decide +kernel
theorem dL_law_469 : decode cL_law 469 = .ok (.aload_n 0, 1) := by decide +kernel
theorem dL_law_470 : decode cL_law 470 = .ok (.iload_n 3, 1) := by decide +kernel
theorem dL_law_471 : decode cL_law 471 = .ok (.iconst 1, 1) := by decide +kernel
theorem dL_law_472 : decode cL_law 472 = .ok (.iadd, 1) := by decide +kernel
theorem dL_law_473 : decode cL_law 473 = .ok (.iaload, 1) := by decide +kernel
theorem dL_law_474 : decode cL_law 474 = .ok (.invokevirtual 69, 3) := by decide +kernel
theorem dL_law_477 : decode cL_law 477 = .ok (.aload_n 2, 1) := by decide +kernel
theorem dL_law_478 : decode cL_law 478 = .ok (.aload_n 0, 1) := by decide +kernel
theorem dL_law_479 : decode cL_law 479 = .ok (.iload_n 3, 1) := by decide +kernel
theorem dL_law_480 : decode cL_law 480 = .ok (.iconst 1, 1) := by decide +kernel
theorem dL_law_481 : decode cL_law 481 = .ok (.iadd, 1) := by decide +kernel
theorem dL_law_482 : decode cL_law 482 = .ok (.iaload, 1) := by decide +kernel
theorem dL_law_483 : decode cL_law 483 = .ok (.invokevirtual 72, 3) := by decide +kernel
theorem dL_law_486 : decode cL_law 486 = .ok (.if_icmp .eq 199, 3) := by decide +kernel
theorem dL_law_489 : decode cL_law 489 = .ok (.iconst 0, 1) := by decide +kernel
theorem dL_law_490 : decode cL_law 490 = .ok (.ireturn, 1) := by decide +kernel
theorem dL_law_491 : decode cL_law 491 = .ok (.aload_n 1, 1) := by decide +kernel
theorem dL_law_492 : decode cL_law 492 = .ok (.invokevirtual 73, 3) := by decide +kernel
theorem dL_law_495 : decode cL_law 495 = .ok (.aload_n 2, 1) := by decide +kernel
theorem dL_law_496 : decode cL_law 496 = .ok (.invokevirtual 76, 3) := by decide +kernel
theorem dL_law_499 : decode cL_law 499 = .ok (.if_icmp .eq 186, 3) := by decide +kernel
theorem dL_law_502 : decode cL_law 502 = .ok (.iconst 0, 1) := by decide +kernel
theorem dL_law_503 : decode cL_law 503 = .ok (.ireturn, 1) := by decide +kernel
theorem dL_law_504 : decode cL_law 504 = .ok (.aload_n 1, 1) := by decide +kernel
theorem dL_law_505 : decode cL_law 505 = .ok (.aload_n 0, 1) := by decide +kernel
theorem dL_law_506 : decode cL_law 506 = .ok (.iload_n 3, 1) := by decide +kernel
theorem dL_law_507 : decode cL_law 507 = .ok (.iconst 1, 1) := by decide +kernel
theorem dL_law_508 : decode cL_law 508 = .ok (.iadd, 1) := by decide +kernel
theorem dL_law_509 : decode cL_law 509 = .ok (.iaload, 1) := by decide +kernel
theorem dL_law_510 : decode cL_law 510 = .ok (.aload_n 0, 1) := by decide +kernel
theorem dL_law_511 : decode cL_law 511 = .ok (.iload_n 3, 1) := by decide +kernel
theorem dL_law_512 : decode cL_law 512 = .ok (.iconst 2, 1) := by decide +kernel
theorem dL_law_513 : decode cL_law 513 = .ok (.iadd, 1) := by decide +kernel
theorem dL_law_514 : decode cL_law 514 = .ok (.iaload, 1) := by decide +kernel
theorem dL_law_515 : decode cL_law 515 = .ok (.invokevirtual 77, 3) := by decide +kernel
theorem dL_law_518 : decode cL_law 518 = .ok (.aload_n 2, 1) := by decide +kernel
theorem dL_law_519 : decode cL_law 519 = .ok (.aload_n 0, 1) := by decide +kernel
theorem dL_law_520 : decode cL_law 520 = .ok (.iload_n 3, 1) := by decide +kernel
theorem dL_law_521 : decode cL_law 521 = .ok (.iconst 1, 1) := by decide +kernel
theorem dL_law_522 : decode cL_law 522 = .ok (.iadd, 1) := by decide +kernel
theorem dL_law_523 : decode cL_law 523 = .ok (.iaload, 1) := by decide +kernel
theorem dL_law_524 : decode cL_law 524 = .ok (.aload_n 0, 1) := by decide +kernel
theorem dL_law_525 : decode cL_law 525 = .ok (.iload_n 3, 1) := by decide +kernel
theorem dL_law_526 : decode cL_law 526 = .ok (.iconst 2, 1) := by decide +kernel
theorem dL_law_527 : decode cL_law 527 = .ok (.iadd, 1) := by decide +kernel
theorem dL_law_528 : decode cL_law 528 = .ok (.iaload, 1) := by decide +kernel
theorem dL_law_529 : decode cL_law 529 = .ok (.invokevirtual 80, 3) := by decide +kernel
theorem dL_law_532 : decode cL_law 532 = .ok (.if_icmp .eq 153, 3) := by decide +kernel
theorem dL_law_535 : decode cL_law 535 = .ok (.iconst 0, 1) := by decide +kernel
theorem dL_law_536 : decode cL_law 536 = .ok (.ireturn, 1) := by decide +kernel
theorem dL_law_537 : decode cL_law 537 = .ok (.aload_n 1, 1) := by decide +kernel
theorem dL_law_538 : decode cL_law 538 = .ok (.invokevirtual 81, 3) := by decide +kernel
theorem dL_law_541 : decode cL_law 541 = .ok (.aload_n 2, 1) := by decide +kernel
theorem dL_law_542 : decode cL_law 542 = .ok (.invokevirtual 85, 3) := by decide +kernel
theorem dL_law_545 : decode cL_law 545 = .ok (.if_icmp .eq 140, 3) := by decide +kernel
theorem dL_law_548 : decode cL_law 548 = .ok (.iconst 0, 1) := by decide +kernel
theorem dL_law_549 : decode cL_law 549 = .ok (.ireturn, 1) := by decide +kernel
theorem dL_law_550 : decode cL_law 550 = .ok (.aload_n 1, 1) := by decide +kernel
theorem dL_law_551 : decode cL_law 551 = .ok (.aload_n 0, 1) := by decide +kernel
theorem dL_law_552 : decode cL_law 552 = .ok (.iload_n 3, 1) := by decide +kernel
theorem dL_law_553 : decode cL_law 553 = .ok (.iconst 1, 1) := by decide +kernel
theorem dL_law_554 : decode cL_law 554 = .ok (.iadd, 1) := by decide +kernel
theorem dL_law_555 : decode cL_law 555 = .ok (.iaload, 1) := by decide +kernel
theorem dL_law_556 : decode cL_law 556 = .ok (.aload_n 0, 1) := by decide +kernel
theorem dL_law_557 : decode cL_law 557 = .ok (.iload_n 3, 1) := by decide +kernel
theorem dL_law_558 : decode cL_law 558 = .ok (.iconst 2, 1) := by decide +kernel
theorem dL_law_559 : decode cL_law 559 = .ok (.iadd, 1) := by decide +kernel
theorem dL_law_560 : decode cL_law 560 = .ok (.iaload, 1) := by decide +kernel
theorem dL_law_561 : decode cL_law 561 = .ok (.invokevirtual 86, 3) := by decide +kernel
theorem dL_law_564 : decode cL_law 564 = .ok (.aload_n 2, 1) := by decide +kernel
theorem dL_law_565 : decode cL_law 565 = .ok (.aload_n 0, 1) := by decide +kernel
theorem dL_law_566 : decode cL_law 566 = .ok (.iload_n 3, 1) := by decide +kernel
theorem dL_law_567 : decode cL_law 567 = .ok (.iconst 1, 1) := by decide +kernel
theorem dL_law_568 : decode cL_law 568 = .ok (.iadd, 1) := by decide +kernel
theorem dL_law_569 : decode cL_law 569 = .ok (.iaload, 1) := by decide +kernel
theorem dL_law_570 : decode cL_law 570 = .ok (.aload_n 0, 1) := by decide +kernel
theorem dL_law_571 : decode cL_law 571 = .ok (.iload_n 3, 1) := by decide +kernel
theorem dL_law_572 : decode cL_law 572 = .ok (.iconst 2, 1) := by decide +kernel
theorem dL_law_573 : decode cL_law 573 = .ok (.iadd, 1) := by decide +kernel
theorem dL_law_574 : decode cL_law 574 = .ok (.iaload, 1) := by decide +kernel
theorem dL_law_575 : decode cL_law 575 = .ok (.invokevirtual 89, 3) := by decide +kernel
theorem dL_law_578 : decode cL_law 578 = .ok (.if_icmp .eq 107, 3) := by decide +kernel
theorem dL_law_581 : decode cL_law 581 = .ok (.iconst 0, 1) := by decide +kernel
theorem dL_law_582 : decode cL_law 582 = .ok (.ireturn, 1) := by decide +kernel
theorem dL_law_583 : decode cL_law 583 = .ok (.aload_n 1, 1) := by decide +kernel
theorem dL_law_584 : decode cL_law 584 = .ok (.aload_n 0, 1) := by decide +kernel
theorem dL_law_585 : decode cL_law 585 = .ok (.iload_n 3, 1) := by decide +kernel
theorem dL_law_586 : decode cL_law 586 = .ok (.iconst 1, 1) := by decide +kernel
theorem dL_law_587 : decode cL_law 587 = .ok (.iadd, 1) := by decide +kernel
theorem dL_law_588 : decode cL_law 588 = .ok (.iaload, 1) := by decide +kernel
theorem dL_law_589 : decode cL_law 589 = .ok (.invokevirtual 90, 3) := by decide +kernel
theorem dL_law_592 : decode cL_law 592 = .ok (.aload_n 2, 1) := by decide +kernel
theorem dL_law_593 : decode cL_law 593 = .ok (.aload_n 0, 1) := by decide +kernel
theorem dL_law_594 : decode cL_law 594 = .ok (.iload_n 3, 1) := by decide +kernel
theorem dL_law_595 : decode cL_law 595 = .ok (.iconst 1, 1) := by decide +kernel
theorem dL_law_596 : decode cL_law 596 = .ok (.iadd, 1) := by decide +kernel
theorem dL_law_597 : decode cL_law 597 = .ok (.iaload, 1) := by decide +kernel
theorem dL_law_598 : decode cL_law 598 = .ok (.invokevirtual 93, 3) := by decide +kernel
theorem dL_law_601 : decode cL_law 601 = .ok (.if_icmp .eq 84, 3) := by decide +kernel
theorem dL_law_604 : decode cL_law 604 = .ok (.iconst 0, 1) := by decide +kernel
theorem dL_law_605 : decode cL_law 605 = .ok (.ireturn, 1) := by decide +kernel
theorem dL_law_606 : decode cL_law 606 = .ok (.aload_n 1, 1) := by decide +kernel
theorem dL_law_607 : decode cL_law 607 = .ok (.aload_n 0, 1) := by decide +kernel
theorem dL_law_608 : decode cL_law 608 = .ok (.iload_n 3, 1) := by decide +kernel
theorem dL_law_609 : decode cL_law 609 = .ok (.iconst 1, 1) := by decide +kernel
theorem dL_law_610 : decode cL_law 610 = .ok (.iadd, 1) := by decide +kernel
theorem dL_law_611 : decode cL_law 611 = .ok (.iaload, 1) := by decide +kernel
theorem dL_law_612 : decode cL_law 612 = .ok (.invokevirtual 94, 3) := by decide +kernel
theorem dL_law_615 : decode cL_law 615 = .ok (.aload_n 2, 1) := by decide +kernel
theorem dL_law_616 : decode cL_law 616 = .ok (.aload_n 0, 1) := by decide +kernel
theorem dL_law_617 : decode cL_law 617 = .ok (.iload_n 3, 1) := by decide +kernel
theorem dL_law_618 : decode cL_law 618 = .ok (.iconst 1, 1) := by decide +kernel
theorem dL_law_619 : decode cL_law 619 = .ok (.iadd, 1) := by decide +kernel
theorem dL_law_620 : decode cL_law 620 = .ok (.iaload, 1) := by decide +kernel
theorem dL_law_621 : decode cL_law 621 = .ok (.invokevirtual 97, 3) := by decide +kernel
theorem dL_law_624 : decode cL_law 624 = .ok (.if_icmp .eq 61, 3) := by decide +kernel
theorem dL_law_627 : decode cL_law 627 = .ok (.iconst 0, 1) := by decide +kernel
theorem dL_law_628 : decode cL_law 628 = .ok (.ireturn, 1) := by decide +kernel
theorem dL_law_629 : decode cL_law 629 = .ok (.aload_n 1, 1) := by decide +kernel
theorem dL_law_630 : decode cL_law 630 = .ok (.aload_n 0, 1) := by decide +kernel
theorem dL_law_631 : decode cL_law 631 = .ok (.iload_n 3, 1) := by decide +kernel
theorem dL_law_632 : decode cL_law 632 = .ok (.iconst 1, 1) := by decide +kernel
theorem dL_law_633 : decode cL_law 633 = .ok (.iadd, 1) := by decide +kernel
theorem dL_law_634 : decode cL_law 634 = .ok (.iaload, 1) := by decide +kernel
theorem dL_law_635 : decode cL_law 635 = .ok (.aload_n 0, 1) := by decide +kernel
theorem dL_law_636 : decode cL_law 636 = .ok (.iload_n 3, 1) := by decide +kernel
theorem dL_law_637 : decode cL_law 637 = .ok (.iconst 2, 1) := by decide +kernel
theorem dL_law_638 : decode cL_law 638 = .ok (.iadd, 1) := by decide +kernel
theorem dL_law_639 : decode cL_law 639 = .ok (.iaload, 1) := by decide +kernel
theorem dL_law_640 : decode cL_law 640 = .ok (.invokevirtual 98, 3) := by decide +kernel
theorem dL_law_643 : decode cL_law 643 = .ok (.aload_n 2, 1) := by decide +kernel
theorem dL_law_644 : decode cL_law 644 = .ok (.aload_n 0, 1) := by decide +kernel
theorem dL_law_645 : decode cL_law 645 = .ok (.iload_n 3, 1) := by decide +kernel
theorem dL_law_646 : decode cL_law 646 = .ok (.iconst 1, 1) := by decide +kernel
theorem dL_law_647 : decode cL_law 647 = .ok (.iadd, 1) := by decide +kernel
theorem dL_law_648 : decode cL_law 648 = .ok (.iaload, 1) := by decide +kernel
theorem dL_law_649 : decode cL_law 649 = .ok (.aload_n 0, 1) := by decide +kernel
theorem dL_law_650 : decode cL_law 650 = .ok (.iload_n 3, 1) := by decide +kernel
theorem dL_law_651 : decode cL_law 651 = .ok (.iconst 2, 1) := by decide +kernel
theorem dL_law_652 : decode cL_law 652 = .ok (.iadd, 1) := by decide +kernel
theorem dL_law_653 : decode cL_law 653 = .ok (.iaload, 1) := by decide +kernel
theorem dL_law_654 : decode cL_law 654 = .ok (.invokevirtual 101, 3) := by decide +kernel
theorem dL_law_657 : decode cL_law 657 = .ok (.if_icmp .eq 28, 3) := by decide +kernel
theorem dL_law_660 : decode cL_law 660 = .ok (.iconst 0, 1) := by decide +kernel
theorem dL_law_661 : decode cL_law 661 = .ok (.ireturn, 1) := by decide +kernel
theorem dL_law_662 : decode cL_law 662 = .ok (.aload_n 1, 1) := by decide +kernel
theorem dL_law_663 : decode cL_law 663 = .ok (.aload_n 0, 1) := by decide +kernel
theorem dL_law_664 : decode cL_law 664 = .ok (.iload_n 3, 1) := by decide +kernel
theorem dL_law_665 : decode cL_law 665 = .ok (.iconst 1, 1) := by decide +kernel
theorem dL_law_666 : decode cL_law 666 = .ok (.iadd, 1) := by decide +kernel
theorem dL_law_667 : decode cL_law 667 = .ok (.iaload, 1) := by decide +kernel
theorem dL_law_668 : decode cL_law 668 = .ok (.invokevirtual 102, 3) := by decide +kernel
theorem dL_law_671 : decode cL_law 671 = .ok (.aload_n 2, 1) := by decide +kernel
theorem dL_law_672 : decode cL_law 672 = .ok (.aload_n 0, 1) := by decide +kernel
theorem dL_law_673 : decode cL_law 673 = .ok (.iload_n 3, 1) := by decide +kernel
theorem dL_law_674 : decode cL_law 674 = .ok (.iconst 1, 1) := by decide +kernel
theorem dL_law_675 : decode cL_law 675 = .ok (.iadd, 1) := by decide +kernel
theorem dL_law_676 : decode cL_law 676 = .ok (.iaload, 1) := by decide +kernel
theorem dL_law_677 : decode cL_law 677 = .ok (.invokevirtual 105, 3) := by decide +kernel
theorem dL_law_680 : decode cL_law 680 = .ok (.if_icmp .eq 5, 3) := by decide +kernel
theorem dL_law_683 : decode cL_law 683 = .ok (.iconst 0, 1) := by decide +kernel
theorem dL_law_684 : decode cL_law 684 = .ok (.ireturn, 1) := by decide +kernel
theorem dL_law_685 : decode cL_law 685 = .ok (.iinc 3 6, 3) := by decide +kernel
theorem dL_law_688 : decode cL_law 688 = .ok (.goto (-670), 3) := by decide +kernel
theorem dL_law_691 : decode cL_law 691 = .ok (.iconst 1, 1) := by decide +kernel
theorem dL_law_692 : decode cL_law 692 = .ok (.ireturn, 1) := by decide +kernel
