theorem dX0_init_0 : decode cX0_init 0 = .ok (.aload_n 0, 1) := by decide +kernel
theorem dX0_init_1 : decode cX0_init 1 = .ok (.invokespecial 3, 3) := by decide +kernel
theorem dX0_init_4 : decode cX0_init 4 = .ok (.aload_n 0, 1) := by decide +kernel
theorem dX0_init_5 : decode cX0_init 5 = .ok (.bipush 60, 2) := by decide +kernel
theorem dX0_init_7 : decode cX0_init 7 = .ok (.newarray .long, 2) := by decide +kernel
theorem dX0_init_9 : decode cX0_init 9 = .ok (.putfield 9, 3) := by decide +kernel
theorem dX0_init_12 : decode cX0_init 12 = .ok (.aload_n 0, 1) := by decide +kernel
theorem dX0_init_13 : decode cX0_init 13 = .ok (.bipush 60, 2) := by decide +kernel
theorem dX0_init_15 : decode cX0_init 15 = .ok (.newarray .int, 2) := by decide +kernel
theorem dX0_init_17 : decode cX0_init 17 = .ok (.putfield 15, 3) := by decide +kernel
theorem dX0_init_20 : decode cX0_init 20 = .ok (.aload_n 0, 1) := by decide +kernel
theorem dX0_init_21 : decode cX0_init 21 = .ok (.bipush 60, 2) := by decide +kernel
theorem dX0_init_23 : decode cX0_init 23 = .ok (.newarray .int, 2) := by decide +kernel
theorem dX0_init_25 : decode cX0_init 25 = .ok (.putfield 19, 3) := by decide +kernel
theorem dX0_init_28 : decode cX0_init 28 = .ok (.aload_n 0, 1) := by decide +kernel
theorem dX0_init_29 : decode cX0_init 29 = .ok (.bipush 60, 2) := by decide +kernel
theorem dX0_init_31 : decode cX0_init 31 = .ok (.newarray .int, 2) := by decide +kernel
theorem dX0_init_33 : decode cX0_init 33 = .ok (.putfield 22, 3) := by decide +kernel
theorem dX0_init_36 : decode cX0_init 36 = .ok (.aload_n 0, 1) := by decide +kernel
theorem dX0_init_37 : decode cX0_init 37 = .ok (.bipush 60, 2) := by decide +kernel
theorem dX0_init_39 : decode cX0_init 39 = .ok (.newarray .int, 2) := by decide +kernel
theorem dX0_init_41 : decode cX0_init 41 = .ok (.putfield 25, 3) := by decide +kernel
theorem dX0_init_44 : decode cX0_init 44 = .ok (.aload_n 0, 1) := by decide +kernel
theorem dX0_init_45 : decode cX0_init 45 = .ok (.sipush 720, 3) := by decide +kernel
theorem dX0_init_48 : decode cX0_init 48 = .ok (.newarray .int, 2) := by decide +kernel
theorem dX0_init_50 : decode cX0_init 50 = .ok (.putfield 28, 3) := by decide +kernel
theorem dX0_init_53 : decode cX0_init 53 = .ok (.aload_n 0, 1) := by decide +kernel
theorem dX0_init_54 : decode cX0_init 54 = .ok (.bipush 60, 2) := by decide +kernel
theorem dX0_init_56 : decode cX0_init 56 = .ok (.newarray .int, 2) := by decide +kernel
theorem dX0_init_58 : decode cX0_init 58 = .ok (.putfield 31, 3) := by decide +kernel
theorem dX0_init_61 : decode cX0_init 61 = .ok (.aload_n 0, 1) := by decide +kernel
theorem dX0_init_62 : decode cX0_init 62 = .ok (.bipush 60, 2) := by decide +kernel
theorem dX0_init_64 : decode cX0_init 64 = .ok (.newarray .int, 2) := by decide +kernel
theorem dX0_init_66 : decode cX0_init 66 = .ok (.putfield 34, 3) := by decide +kernel
theorem dX0_init_69 : decode cX0_init 69 = .ok (.aload_n 0, 1) := by decide +kernel
theorem dX0_init_70 : decode cX0_init 70 = .ok (.bipush 60, 2) := by decide +kernel
theorem dX0_init_72 : decode cX0_init 72 = .ok (.newarray .long, 2) := by decide +kernel
theorem dX0_init_74 : decode cX0_init 74 = .ok (.putfield 37, 3) := by decide +kernel
theorem dX0_init_77 : decode cX0_init 77 = .ok (.aload_n 0, 1) := by decide +kernel
theorem dX0_init_78 : decode cX0_init 78 = .ok (.bipush 60, 2) := by decide +kernel
theorem dX0_init_80 : decode cX0_init 80 = .ok (.newarray .int, 2) := by decide +kernel
theorem dX0_init_82 : decode cX0_init 82 = .ok (.putfield 40, 3) := by decide +kernel
theorem dX0_init_85 : decode cX0_init 85 = .ok (.aload_n 0, 1) := by decide +kernel
theorem dX0_init_86 : decode cX0_init 86 = .ok (.bipush 60, 2) := by decide +kernel
theorem dX0_init_88 : decode cX0_init 88 = .ok (.newarray .int, 2) := by decide +kernel
theorem dX0_init_90 : decode cX0_init 90 = .ok (.putfield 43, 3) := by decide +kernel
theorem dX0_init_93 : decode cX0_init 93 = .ok (.return_, 1) := by decide +kernel
theorem dX0_clear_0 : decode cX0_clear 0 = .ok (.aload_n 0, 1) := by decide +kernel
theorem dX0_clear_1 : decode cX0_clear 1 = .ok (.iconst 0, 1) := by decide +kernel
theorem dX0_clear_2 : decode cX0_clear 2 = .ok (.putfield 46, 3) := by decide +kernel
theorem dX0_clear_5 : decode cX0_clear 5 = .ok (.aload_n 0, 1) := by decide +kernel
theorem dX0_clear_6 : decode cX0_clear 6 = .ok (.iconst 0, 1) := by decide +kernel
theorem dX0_clear_7 : decode cX0_clear 7 = .ok (.putfield 50, 3) := by decide +kernel
theorem dX0_clear_10 : decode cX0_clear 10 = .ok (.return_, 1) := by decide +kernel
theorem dX0_has_0 : decode cX0_has 0 = .ok (.iload_n 1, 1) := by decide +kernel
theorem dX0_has_1 : decode cX0_has 1 = .ok (.ifCond .lt 15, 3) := by decide +kernel
theorem dX0_has_4 : decode cX0_has 4 = .ok (.iload_n 1, 1) := by decide +kernel
theorem dX0_has_5 : decode cX0_has 5 = .ok (.aload_n 0, 1) := by decide +kernel
theorem dX0_has_6 : decode cX0_has 6 = .ok (.getfield 46, 3) := by decide +kernel
theorem dX0_has_9 : decode cX0_has 9 = .ok (.if_icmp .ge 7, 3) := by decide +kernel
theorem dX0_has_12 : decode cX0_has 12 = .ok (.iconst 1, 1) := by decide +kernel
theorem dX0_has_13 : decode cX0_has 13 = .ok (.goto 4, 3) := by decide +kernel
theorem dX0_has_16 : decode cX0_has 16 = .ok (.iconst 0, 1) := by decide +kernel
theorem dX0_has_17 : decode cX0_has 17 = .ok (.ireturn, 1) := by decide +kernel
set_option maxRecDepth 20000 in
theorem ggX0_isKind_X0_has : GoodIn wsX0_isKind wsX0_has := goodIn_r _ [6, 7, 8, 9, 10, 11, 12, 13, 14, 15, 16, 17, 18, 19, 20] (by decide +kernel) (by decide +kernel)
set_option maxRecDepth 20000 in
theorem gX0_isKind_X0_has : GoodIn wsX0_isKind (wsV RX0 53 RX0 yX0_has wsX0_has) := goodIn_app (goodIn_of _ (by decide +kernel)) ggX0_isKind_X0_has
theorem dX0_isKind_0 : decode cX0_isKind 0 = .ok (.aload_n 0, 1) := by decide +kernel
theorem dX0_isKind_1 : decode cX0_isKind 1 = .ok (.iload_n 1, 1) := by decide +kernel
theorem dX0_isKind_2 : decode cX0_isKind 2 = .ok (.invokevirtual 53, 3) := by decide +kernel
theorem dX0_isKind_5 : decode cX0_isKind 5 = .ok (.ifCond .eq 17, 3) := by decide +kernel
theorem dX0_isKind_8 : decode cX0_isKind 8 = .ok (.aload_n 0, 1) := by decide +kernel
theorem dX0_isKind_9 : decode cX0_isKind 9 = .ok (.getfield 19, 3) := by decide +kernel
theorem dX0_isKind_12 : decode cX0_isKind 12 = .ok (.iload_n 1, 1) := by decide +kernel
theorem dX0_isKind_13 : decode cX0_isKind 13 = .ok (.iaload, 1) := by decide +kernel
theorem dX0_isKind_14 : decode cX0_isKind 14 = .ok (.iload_n 2, 1) := by decide +kernel
theorem dX0_isKind_15 : decode cX0_isKind 15 = .ok (.if_icmp .ne 7, 3) := by decide +kernel
theorem dX0_isKind_18 : decode cX0_isKind 18 = .ok (.iconst 1, 1) := by decide +kernel
theorem dX0_isKind_19 : decode cX0_isKind 19 = .ok (.goto 4, 3) := by decide +kernel
theorem dX0_isKind_22 : decode cX0_isKind 22 = .ok (.iconst 0, 1) := by decide +kernel
theorem dX0_isKind_23 : decode cX0_isKind 23 = .ok (.ireturn, 1) := by decide +kernel
set_option maxRecDepth 20000 in
theorem ggX0_isSource_X0_isKind : GoodIn wsX0_isSource wsX0_isKind := goodIn_r _ [5, 6, 7, 8, 9, 4, 10, 11, 12, 13, 14, 15, 16, 17, 18, 19, 20, 21, 22, 23, 24] (by decide +kernel) (by decide +kernel)
set_option maxRecDepth 20000 in
theorem gX0_isSource_X0_isKind : GoodIn wsX0_isSource (wsV RX0 57 RX0 yX0_isKind wsX0_isKind) := goodIn_app (goodIn_of _ (by decide +kernel)) ggX0_isSource_X0_isKind
theorem dX0_isSource_0 : decode cX0_isSource 0 = .ok (.aload_n 0, 1) := by decide +kernel
theorem dX0_isSource_1 : decode cX0_isSource 1 = .ok (.iload_n 1, 1) := by decide +kernel
theorem dX0_isSource_2 : decode cX0_isSource 2 = .ok (.iconst 0, 1) := by decide +kernel
theorem dX0_isSource_3 : decode cX0_isSource 3 = .ok (.invokevirtual 57, 3) := by decide +kernel
theorem dX0_isSource_6 : decode cX0_isSource 6 = .ok (.ifCond .ne 12, 3) := by decide +kernel
theorem dX0_isSource_9 : decode cX0_isSource 9 = .ok (.aload_n 0, 1) := by decide +kernel
theorem dX0_isSource_10 : decode cX0_isSource 10 = .ok (.iload_n 1, 1) := by decide +kernel
theorem dX0_isSource_11 : decode cX0_isSource 11 = .ok (.iconst 3, 1) := by decide +kernel
theorem dX0_isSource_12 : decode cX0_isSource 12 = .ok (.invokevirtual 57, 3) := by decide +kernel
theorem dX0_isSource_15 : decode cX0_isSource 15 = .ok (.ifCond .eq 7, 3) := by decide +kernel
theorem dX0_isSource_18 : decode cX0_isSource 18 = .ok (.iconst 1, 1) := by decide +kernel
theorem dX0_isSource_19 : decode cX0_isSource 19 = .ok (.goto 4, 3) := by decide +kernel
theorem dX0_isSource_22 : decode cX0_isSource 22 = .ok (.iconst 0, 1) := by decide +kernel
theorem dX0_isSource_23 : decode cX0_isSource 23 = .ok (.ireturn, 1) := by decide +kernel
theorem dX0_find_0 : decode cX0_find 0 = .ok (.iconst 0, 1) := by decide +kernel
theorem dX0_find_1 : decode cX0_find 1 = .ok (.istore_n 3, 1) := by decide +kernel
theorem dX0_find_2 : decode cX0_find 2 = .ok (.iload_n 3, 1) := by decide +kernel
theorem dX0_find_3 : decode cX0_find 3 = .ok (.aload_n 0, 1) := by decide +kernel
theorem dX0_find_4 : decode cX0_find 4 = .ok (.getfield 46, 3) := by decide +kernel
theorem dX0_find_7 : decode cX0_find 7 = .ok (.if_icmp .ge 22, 3) := by decide +kernel
theorem dX0_find_10 : decode cX0_find 10 = .ok (.aload_n 0, 1) := by decide +kernel
theorem dX0_find_11 : decode cX0_find 11 = .ok (.getfield 9, 3) := by decide +kernel
theorem dX0_find_14 : decode cX0_find 14 = .ok (.iload_n 3, 1) := by decide +kernel
theorem dX0_find_15 : decode cX0_find 15 = .ok (.laload, 1) := by decide +kernel
theorem dX0_find_16 : decode cX0_find 16 = .ok (.lload_n 1, 1) := by decide +kernel
theorem dX0_find_17 : decode cX0_find 17 = .ok (.lcmp, 1) := by decide +kernel
theorem dX0_find_18 : decode cX0_find 18 = .ok (.ifCond .ne 5, 3) := by decide +kernel
theorem dX0_find_21 : decode cX0_find 21 = .ok (.iload_n 3, 1) := by decide +kernel
theorem dX0_find_22 : decode cX0_find 22 = .ok (.ireturn, 1) := by decide +kernel
theorem dX0_find_23 : decode cX0_find 23 = .ok (.iinc 3 1, 3) := by decide +kernel
theorem dX0_find_26 : decode cX0_find 26 = .ok (.goto (-24), 3) := by decide +kernel
theorem dX0_find_29 : decode cX0_find 29 = .ok (.iconst (-1), 1) := by decide +kernel
theorem dX0_find_30 : decode cX0_find 30 = .ok (.ireturn, 1) := by decide +kernel
theorem dX0_add_0 : decode cX0_add 0 = .ok (.aload_n 0, 1) := by decide +kernel
theorem dX0_add_1 : decode cX0_add 1 = .ok (.getfield 46, 3) := by decide +kernel
theorem dX0_add_4 : decode cX0_add 4 = .ok (.bipush 60, 2) := by decide +kernel
theorem dX0_add_6 : decode cX0_add 6 = .ok (.if_icmp .lt 4, 3) := by decide +kernel
theorem dX0_add_9 : decode cX0_add 9 = .ok (.return_, 1) := by decide +kernel
theorem dX0_add_10 : decode cX0_add 10 = .ok (.aload_n 0, 1) := by decide +kernel
theorem dX0_add_11 : decode cX0_add 11 = .ok (.getfield 9, 3) := by decide +kernel
theorem dX0_add_14 : decode cX0_add 14 = .ok (.aload_n 0, 1) := by decide +kernel
theorem dX0_add_15 : decode cX0_add 15 = .ok (.getfield 46, 3) := by decide +kernel
theorem dX0_add_18 : decode cX0_add 18 = .ok (.lload_n 1, 1) := by decide +kernel
theorem dX0_add_19 : decode cX0_add 19 = .ok (.lastore, 1) := by decide +kernel
theorem dX0_add_20 : decode cX0_add 20 = .ok (.aload_n 0, 1) := by decide +kernel
theorem dX0_add_21 : decode cX0_add 21 = .ok (.getfield 15, 3) := by decide +kernel
theorem dX0_add_24 : decode cX0_add 24 = .ok (.aload_n 0, 1) := by decide +kernel
theorem dX0_add_25 : decode cX0_add 25 = .ok (.getfield 46, 3) := by decide +kernel
theorem dX0_add_28 : decode cX0_add 28 = .ok (.iload_n 3, 1) := by decide +kernel
theorem dX0_add_29 : decode cX0_add 29 = .ok (.iastore, 1) := by decide +kernel
theorem dX0_add_30 : decode cX0_add 30 = .ok (.aload_n 0, 1) := by decide +kernel
theorem dX0_add_31 : decode cX0_add 31 = .ok (.getfield 19, 3) := by decide +kernel
theorem dX0_add_34 : decode cX0_add 34 = .ok (.aload_n 0, 1) := by decide +kernel
theorem dX0_add_35 : decode cX0_add 35 = .ok (.getfield 46, 3) := by decide +kernel
theorem dX0_add_38 : decode cX0_add 38 = .ok (.iload 4, 2) := by decide +kernel
theorem dX0_add_40 : decode cX0_add 40 = .ok (.iastore, 1) := by decide +kernel
theorem dX0_add_41 : decode cX0_add 41 = .ok (.aload_n 0, 1) := by decide +kernel
theorem dX0_add_42 : decode cX0_add 42 = .ok (.getfield 22, 3) := by decide +kernel
theorem dX0_add_45 : decode cX0_add 45 = .ok (.aload_n 0, 1) := by decide +kernel
theorem dX0_add_46 : decode cX0_add 46 = .ok (.getfield 46, 3) := by decide +kernel
theorem dX0_add_49 : decode cX0_add 49 = .ok (.iconst 0, 1) := by decide +kernel
theorem dX0_add_50 : decode cX0_add 50 = .ok (.iastore, 1) := by decide +kernel
theorem dX0_add_51 : decode cX0_add 51 = .ok (.aload_n 0, 1) := by decide +kernel
theorem dX0_add_52 : decode cX0_add 52 = .ok (.getfield 25, 3) := by decide +kernel
theorem dX0_add_55 : decode cX0_add 55 = .ok (.aload_n 0, 1) := by decide +kernel
theorem dX0_add_56 : decode cX0_add 56 = .ok (.getfield 46, 3) := by decide +kernel
theorem dX0_add_59 : decode cX0_add 59 = .ok (.iload 4, 2) := by decide +kernel
theorem dX0_add_61 : decode cX0_add 61 = .ok (.iconst 2, 1) := by decide +kernel
theorem dX0_add_62 : decode cX0_add 62 = .ok (.if_icmp .ne 7, 3) := by decide +kernel
theorem dX0_add_65 : decode cX0_add 65 = .ok (.iconst 1, 1) := by decide +kernel
theorem dX0_add_66 : decode cX0_add 66 = .ok (.goto 4, 3) := by decide +kernel
theorem dX0_add_69 : decode cX0_add 69 = .ok (.iconst 0, 1) := by decide +kernel
theorem dX0_add_70 : decode cX0_add 70 = .ok (.iastore, 1) := by decide +kernel
theorem dX0_add_71 : decode cX0_add 71 = .ok (.aload_n 0, 1) := by decide +kernel
theorem dX0_add_72 : decode cX0_add 72 = .ok (.getfield 31, 3) := by decide +kernel
theorem dX0_add_75 : decode cX0_add 75 = .ok (.aload_n 0, 1) := by decide +kernel
theorem dX0_add_76 : decode cX0_add 76 = .ok (.getfield 46, 3) := by decide +kernel
theorem dX0_add_79 : decode cX0_add 79 = .ok (.iconst 0, 1) := by decide +kernel
theorem dX0_add_80 : decode cX0_add 80 = .ok (.iastore, 1) := by decide +kernel
theorem dX0_add_81 : decode cX0_add 81 = .ok (.aload_n 0, 1) := by decide +kernel
theorem dX0_add_82 : decode cX0_add 82 = .ok (.getfield 34, 3) := by decide +kernel
theorem dX0_add_85 : decode cX0_add 85 = .ok (.aload_n 0, 1) := by decide +kernel
theorem dX0_add_86 : decode cX0_add 86 = .ok (.getfield 46, 3) := by decide +kernel
theorem dX0_add_89 : decode cX0_add 89 = .ok (.iconst 0, 1) := by decide +kernel
theorem dX0_add_90 : decode cX0_add 90 = .ok (.iastore, 1) := by decide +kernel
theorem dX0_add_91 : decode cX0_add 91 = .ok (.aload_n 0, 1) := by decide +kernel
theorem dX0_add_92 : decode cX0_add 92 = .ok (.getfield 37, 3) := by decide +kernel
theorem dX0_add_95 : decode cX0_add 95 = .ok (.aload_n 0, 1) := by decide +kernel
theorem dX0_add_96 : decode cX0_add 96 = .ok (.getfield 46, 3) := by decide +kernel
theorem dX0_add_99 : decode cX0_add 99 = .ok (.lconst 0, 1) := by decide +kernel
theorem dX0_add_100 : decode cX0_add 100 = .ok (.lastore, 1) := by decide +kernel
theorem dX0_add_101 : decode cX0_add 101 = .ok (.aload_n 0, 1) := by decide +kernel
theorem dX0_add_102 : decode cX0_add 102 = .ok (.getfield 40, 3) := by decide +kernel
theorem dX0_add_105 : decode cX0_add 105 = .ok (.aload_n 0, 1) := by decide +kernel
theorem dX0_add_106 : decode cX0_add 106 = .ok (.getfield 46, 3) := by decide +kernel
theorem dX0_add_109 : decode cX0_add 109 = .ok (.iconst 0, 1) := by decide +kernel
theorem dX0_add_110 : decode cX0_add 110 = .ok (.iastore, 1) := by decide +kernel
theorem dX0_add_111 : decode cX0_add 111 = .ok (.iload 4, 2) := by decide +kernel
theorem dX0_add_113 : decode cX0_add 113 = .ok (.iconst 3, 1) := by decide +kernel
theorem dX0_add_114 : decode cX0_add 114 = .ok (.if_icmp .ne 13, 3) := by decide +kernel
theorem dX0_add_117 : decode cX0_add 117 = .ok (.aload_n 0, 1) := by decide +kernel
theorem dX0_add_118 : decode cX0_add 118 = .ok (.dup, 1) := by decide +kernel
theorem dX0_add_119 : decode cX0_add 119 = .ok (.getfield 50, 3) := by decide +kernel
theorem dX0_add_122 : decode cX0_add 122 = .ok (.iconst 1, 1) := by decide +kernel
theorem dX0_add_123 : decode cX0_add 123 = .ok (.iadd, 1) := by decide +kernel
theorem dX0_add_124 : decode cX0_add 124 = .ok (.putfield 50, 3) := by decide +kernel
theorem dX0_add_127 : decode cX0_add 127 = .ok (.aload_n 0, 1) := by decide +kernel
theorem dX0_add_128 : decode cX0_add 128 = .ok (.dup, 1) := by decide +kernel
theorem dX0_add_129 : decode cX0_add 129 = .ok (.getfield 46, 3) := by decide +kernel
theorem dX0_add_132 : decode cX0_add 132 = .ok (.iconst 1, 1) := by decide +kernel
theorem dX0_add_133 : decode cX0_add 133 = .ok (.iadd, 1) := by decide +kernel
theorem dX0_add_134 : decode cX0_add 134 = .ok (.putfield 46, 3) := by decide +kernel
theorem dX0_add_137 : decode cX0_add 137 = .ok (.return_, 1) := by decide +kernel
set_option maxRecDepth 20000 in
theorem ggX0_addPart_X0_has : GoodIn wsX0_addPart wsX0_has := goodIn_r _ [9, 10, 11, 12, 13, 14, 15, 16, 17, 18, 19, 20, 21, 22, 23] (by decide +kernel) (by decide +kernel)
set_option maxRecDepth 20000 in
theorem gX0_addPart_X0_has : GoodIn wsX0_addPart (wsV RX0 53 RX0 yX0_has wsX0_has) := goodIn_app (goodIn_of _ (by decide +kernel)) ggX0_addPart_X0_has
theorem dX0_addPart_0 : decode cX0_addPart 0 = .ok (.aload_n 0, 1) := by decide +kernel
theorem dX0_addPart_1 : decode cX0_addPart 1 = .ok (.iload_n 1, 1) := by decide +kernel
theorem dX0_addPart_2 : decode cX0_addPart 2 = .ok (.invokevirtual 53, 3) := by decide +kernel
theorem dX0_addPart_5 : decode cX0_addPart 5 = .ok (.ifCond .eq 22, 3) := by decide +kernel
theorem dX0_addPart_8 : decode cX0_addPart 8 = .ok (.aload_n 0, 1) := by decide +kernel
theorem dX0_addPart_9 : decode cX0_addPart 9 = .ok (.iload_n 2, 1) := by decide +kernel
theorem dX0_addPart_10 : decode cX0_addPart 10 = .ok (.invokevirtual 53, 3) := by decide +kernel
theorem dX0_addPart_13 : decode cX0_addPart 13 = .ok (.ifCond .eq 14, 3) := by decide +kernel
theorem dX0_addPart_16 : decode cX0_addPart 16 = .ok (.aload_n 0, 1) := by decide +kernel
theorem dX0_addPart_17 : decode cX0_addPart 17 = .ok (.getfield 31, 3) := by decide +kernel
theorem dX0_addPart_20 : decode cX0_addPart 20 = .ok (.iload_n 1, 1) := by decide +kernel
theorem dX0_addPart_21 : decode cX0_addPart 21 = .ok (.iaload, 1) := by decide +kernel
theorem dX0_addPart_22 : decode cX0_addPart 22 = .ok (.bipush 12, 2) := by decide +kernel
theorem dX0_addPart_24 : decode cX0_addPart 24 = .ok (.if_icmp .lt 4, 3) := by decide +kernel
theorem dX0_addPart_27 : decode cX0_addPart 27 = .ok (.return_, 1) := by decide +kernel
theorem dX0_addPart_28 : decode cX0_addPart 28 = .ok (.aload_n 0, 1) := by decide +kernel
theorem dX0_addPart_29 : decode cX0_addPart 29 = .ok (.getfield 28, 3) := by decide +kernel
theorem dX0_addPart_32 : decode cX0_addPart 32 = .ok (.iload_n 1, 1) := by decide +kernel
theorem dX0_addPart_33 : decode cX0_addPart 33 = .ok (.bipush 12, 2) := by decide +kernel
theorem dX0_addPart_35 : decode cX0_addPart 35 = .ok (.imul, 1) := by decide +kernel
theorem dX0_addPart_36 : decode cX0_addPart 36 = .ok (.aload_n 0, 1) := by decide +kernel
theorem dX0_addPart_37 : decode cX0_addPart 37 = .ok (.getfield 31, 3) := by decide +kernel
theorem dX0_addPart_40 : decode cX0_addPart 40 = .ok (.iload_n 1, 1) := by decide +kernel
theorem dX0_addPart_41 : decode cX0_addPart 41 = .ok (.iaload, 1) := by decide +kernel
theorem dX0_addPart_42 : decode cX0_addPart 42 = .ok (.iadd, 1) := by decide +kernel
theorem dX0_addPart_43 : decode cX0_addPart 43 = .ok (.iload_n 2, 1) := by decide +kernel
theorem dX0_addPart_44 : decode cX0_addPart 44 = .ok (.iastore, 1) := by decide +kernel
theorem dX0_addPart_45 : decode cX0_addPart 45 = .ok (.aload_n 0, 1) := by decide +kernel
theorem dX0_addPart_46 : decode cX0_addPart 46 = .ok (.getfield 31, 3) := by decide +kernel
theorem dX0_addPart_49 : decode cX0_addPart 49 = .ok (.iload_n 1, 1) := by decide +kernel
theorem dX0_addPart_50 : decode cX0_addPart 50 = .ok (.dup2, 1) := by decide +kernel
theorem dX0_addPart_51 : decode cX0_addPart 51 = .ok (.iaload, 1) := by decide +kernel
theorem dX0_addPart_52 : decode cX0_addPart 52 = .ok (.iconst 1, 1) := by decide +kernel
theorem dX0_addPart_53 : decode cX0_addPart 53 = .ok (.iadd, 1) := by decide +kernel
theorem dX0_addPart_54 : decode cX0_addPart 54 = .ok (.iastore, 1) := by decide +kernel
theorem dX0_addPart_55 : decode cX0_addPart 55 = .ok (.aload_n 0, 1) := by decide +kernel
theorem dX0_addPart_56 : decode cX0_addPart 56 = .ok (.getfield 19, 3) := by decide +kernel
theorem dX0_addPart_59 : decode cX0_addPart 59 = .ok (.iload_n 1, 1) := by decide +kernel
theorem dX0_addPart_60 : decode cX0_addPart 60 = .ok (.iaload, 1) := by decide +kernel
theorem dX0_addPart_61 : decode cX0_addPart 61 = .ok (.iconst 3, 1) := by decide +kernel
theorem dX0_addPart_62 : decode cX0_addPart 62 = .ok (.if_icmp .eq 15, 3) := by decide +kernel
theorem dX0_addPart_65 : decode cX0_addPart 65 = .ok (.aload_n 0, 1) := by decide +kernel
theorem dX0_addPart_66 : decode cX0_addPart 66 = .ok (.getfield 37, 3) := by decide +kernel
theorem dX0_addPart_69 : decode cX0_addPart 69 = .ok (.iload_n 1, 1) := by decide +kernel
theorem dX0_addPart_70 : decode cX0_addPart 70 = .ok (.dup2, 1) := by decide +kernel
theorem dX0_addPart_71 : decode cX0_addPart 71 = .ok (.laload, 1) := by decide +kernel
theorem dX0_addPart_72 : decode cX0_addPart 72 = .ok (.lconst 1, 1) := by decide +kernel
theorem dX0_addPart_73 : decode cX0_addPart 73 = .ok (.iload_n 2, 1) := by decide +kernel
theorem dX0_addPart_74 : decode cX0_addPart 74 = .ok (.lshl, 1) := by decide +kernel
theorem dX0_addPart_75 : decode cX0_addPart 75 = .ok (.lor, 1) := by decide +kernel
theorem dX0_addPart_76 : decode cX0_addPart 76 = .ok (.lastore, 1) := by decide +kernel
theorem dX0_addPart_77 : decode cX0_addPart 77 = .ok (.return_, 1) := by decide +kernel
set_option maxRecDepth 20000 in
theorem ggX0_beginDriver_X0_has : GoodIn wsX0_beginDriver wsX0_has := goodIn_r _ [6, 7, 14, 15, 16, 17, 18, 19, 20, 21, 22, 23, 24, 25, 26] (by decide +kernel) (by decide +kernel)
set_option maxRecDepth 20000 in
theorem gX0_beginDriver_X0_has : GoodIn wsX0_beginDriver (wsV RX0 53 RX0 yX0_has wsX0_has) := goodIn_app (goodIn_of _ (by decide +kernel)) ggX0_beginDriver_X0_has
set_option maxRecDepth 20000 in
theorem ggX0_beginDriver_X0_size : GoodIn wsX0_beginDriver wsX0_size := goodIn_r _ [11, 12, 13, 14, 15, 16, 17, 18, 19, 20, 21, 22, 23, 24, 25, 26] (by decide +kernel) (by decide +kernel)
set_option maxRecDepth 20000 in
theorem gX0_beginDriver_X0_size : GoodIn wsX0_beginDriver (wsV RX0 61 RX0 yX0_size wsX0_size) := goodIn_app (goodIn_of _ (by decide +kernel)) ggX0_beginDriver_X0_size
theorem dX0_beginDriver_0 : decode cX0_beginDriver 0 = .ok (.aload_n 0, 1) := by decide +kernel
theorem dX0_beginDriver_1 : decode cX0_beginDriver 1 = .ok (.iload_n 1, 1) := by decide +kernel
theorem dX0_beginDriver_2 : decode cX0_beginDriver 2 = .ok (.invokevirtual 53, 3) := by decide +kernel
theorem dX0_beginDriver_5 : decode cX0_beginDriver 5 = .ok (.ifCond .eq 23, 3) := by decide +kernel
theorem dX0_beginDriver_8 : decode cX0_beginDriver 8 = .ok (.iload_n 2, 1) := by decide +kernel
theorem dX0_beginDriver_9 : decode cX0_beginDriver 9 = .ok (.ifCond .eq 19, 3) := by decide +kernel
theorem dX0_beginDriver_12 : decode cX0_beginDriver 12 = .ok (.aload_n 0, 1) := by decide +kernel
theorem dX0_beginDriver_13 : decode cX0_beginDriver 13 = .ok (.getfield 34, 3) := by decide +kernel
theorem dX0_beginDriver_16 : decode cX0_beginDriver 16 = .ok (.iload_n 1, 1) := by decide +kernel
theorem dX0_beginDriver_17 : decode cX0_beginDriver 17 = .ok (.dup2, 1) := by decide +kernel
theorem dX0_beginDriver_18 : decode cX0_beginDriver 18 = .ok (.iaload, 1) := by decide +kernel
theorem dX0_beginDriver_19 : decode cX0_beginDriver 19 = .ok (.iconst 1, 1) := by decide +kernel
theorem dX0_beginDriver_20 : decode cX0_beginDriver 20 = .ok (.aload_n 0, 1) := by decide +kernel
theorem dX0_beginDriver_21 : decode cX0_beginDriver 21 = .ok (.iload_n 1, 1) := by decide +kernel
theorem dX0_beginDriver_22 : decode cX0_beginDriver 22 = .ok (.invokevirtual 61, 3) := by decide +kernel
theorem dX0_beginDriver_25 : decode cX0_beginDriver 25 = .ok (.ishl, 1) := by decide +kernel
theorem dX0_beginDriver_26 : decode cX0_beginDriver 26 = .ok (.ior, 1) := by decide +kernel
theorem dX0_beginDriver_27 : decode cX0_beginDriver 27 = .ok (.iastore, 1) := by decide +kernel
theorem dX0_beginDriver_28 : decode cX0_beginDriver 28 = .ok (.return_, 1) := by decide +kernel
theorem dX0_part_0 : decode cX0_part 0 = .ok (.aload_n 0, 1) := by decide +kernel
theorem dX0_part_1 : decode cX0_part 1 = .ok (.getfield 28, 3) := by decide +kernel
theorem dX0_part_4 : decode cX0_part 4 = .ok (.iload_n 1, 1) := by decide +kernel
theorem dX0_part_5 : decode cX0_part 5 = .ok (.bipush 12, 2) := by decide +kernel
theorem dX0_part_7 : decode cX0_part 7 = .ok (.imul, 1) := by decide +kernel
theorem dX0_part_8 : decode cX0_part 8 = .ok (.iload_n 2, 1) := by decide +kernel
theorem dX0_part_9 : decode cX0_part 9 = .ok (.iadd, 1) := by decide +kernel
theorem dX0_part_10 : decode cX0_part 10 = .ok (.iaload, 1) := by decide +kernel
theorem dX0_part_11 : decode cX0_part 11 = .ok (.ireturn, 1) := by decide +kernel
theorem dX0_isLow_0 : decode cX0_isLow 0 = .ok (.aload_n 0, 1) := by decide +kernel
theorem dX0_isLow_1 : decode cX0_isLow 1 = .ok (.getfield 34, 3) := by decide +kernel
theorem dX0_isLow_4 : decode cX0_isLow 4 = .ok (.iload_n 1, 1) := by decide +kernel
theorem dX0_isLow_5 : decode cX0_isLow 5 = .ok (.iaload, 1) := by decide +kernel
theorem dX0_isLow_6 : decode cX0_isLow 6 = .ok (.iload_n 2, 1) := by decide +kernel
theorem dX0_isLow_7 : decode cX0_isLow 7 = .ok (.ishr, 1) := by decide +kernel
theorem dX0_isLow_8 : decode cX0_isLow 8 = .ok (.iconst 1, 1) := by decide +kernel
theorem dX0_isLow_9 : decode cX0_isLow 9 = .ok (.iand, 1) := by decide +kernel
theorem dX0_isLow_10 : decode cX0_isLow 10 = .ok (.iconst 1, 1) := by decide +kernel
theorem dX0_isLow_11 : decode cX0_isLow 11 = .ok (.if_icmp .ne 7, 3) := by decide +kernel
theorem dX0_isLow_14 : decode cX0_isLow 14 = .ok (.iconst 1, 1) := by decide +kernel
theorem dX0_isLow_15 : decode cX0_isLow 15 = .ok (.goto 4, 3) := by decide +kernel
theorem dX0_isLow_18 : decode cX0_isLow 18 = .ok (.iconst 0, 1) := by decide +kernel
theorem dX0_isLow_19 : decode cX0_isLow 19 = .ok (.ireturn, 1) := by decide +kernel
theorem dX0_size_0 : decode cX0_size 0 = .ok (.aload_n 0, 1) := by decide +kernel
theorem dX0_size_1 : decode cX0_size 1 = .ok (.getfield 19, 3) := by decide +kernel
theorem dX0_size_4 : decode cX0_size 4 = .ok (.iload_n 1, 1) := by decide +kernel
theorem dX0_size_5 : decode cX0_size 5 = .ok (.iaload, 1) := by decide +kernel
theorem dX0_size_6 : decode cX0_size 6 = .ok (.iconst 1, 1) := by decide +kernel
theorem dX0_size_7 : decode cX0_size 7 = .ok (.if_icmp .ne 14, 3) := by decide +kernel
theorem dX0_size_10 : decode cX0_size 10 = .ok (.aload_n 0, 1) := by decide +kernel
theorem dX0_size_11 : decode cX0_size 11 = .ok (.getfield 31, 3) := by decide +kernel
theorem dX0_size_14 : decode cX0_size 14 = .ok (.iload_n 1, 1) := by decide +kernel
theorem dX0_size_15 : decode cX0_size 15 = .ok (.iaload, 1) := by decide +kernel
theorem dX0_size_16 : decode cX0_size 16 = .ok (.iconst 2, 1) := by decide +kernel
theorem dX0_size_17 : decode cX0_size 17 = .ok (.idiv, 1) := by decide +kernel
theorem dX0_size_18 : decode cX0_size 18 = .ok (.goto 9, 3) := by decide +kernel
theorem dX0_size_21 : decode cX0_size 21 = .ok (.aload_n 0, 1) := by decide +kernel
theorem dX0_size_22 : decode cX0_size 22 = .ok (.getfield 31, 3) := by decide +kernel
theorem dX0_size_25 : decode cX0_size 25 = .ok (.iload_n 1, 1) := by decide +kernel
theorem dX0_size_26 : decode cX0_size 26 = .ok (.iaload, 1) := by decide +kernel
theorem dX0_size_27 : decode cX0_size 27 = .ok (.ireturn, 1) := by decide +kernel
theorem dX0_dependsOn_0 : decode cX0_dependsOn 0 = .ok (.aload_n 0, 1) := by decide +kernel
theorem dX0_dependsOn_1 : decode cX0_dependsOn 1 = .ok (.getfield 37, 3) := by decide +kernel
theorem dX0_dependsOn_4 : decode cX0_dependsOn 4 = .ok (.iload_n 1, 1) := by decide +kernel
theorem dX0_dependsOn_5 : decode cX0_dependsOn 5 = .ok (.laload, 1) := by decide +kernel
theorem dX0_dependsOn_6 : decode cX0_dependsOn 6 = .ok (.lload_n 2, 1) := by decide +kernel
theorem dX0_dependsOn_7 : decode cX0_dependsOn 7 = .ok (.land, 1) := by decide +kernel
theorem dX0_dependsOn_8 : decode cX0_dependsOn 8 = .ok (.lconst 0, 1) := by decide +kernel
theorem dX0_dependsOn_9 : decode cX0_dependsOn 9 = .ok (.lcmp, 1) := by decide +kernel
theorem dX0_dependsOn_10 : decode cX0_dependsOn 10 = .ok (.ifCond .eq 7, 3) := by decide +kernel
theorem dX0_dependsOn_13 : decode cX0_dependsOn 13 = .ok (.iconst 1, 1) := by decide +kernel
theorem dX0_dependsOn_14 : decode cX0_dependsOn 14 = .ok (.goto 4, 3) := by decide +kernel
theorem dX0_dependsOn_17 : decode cX0_dependsOn 17 = .ok (.iconst 0, 1) := by decide +kernel
theorem dX0_dependsOn_18 : decode cX0_dependsOn 18 = .ok (.ireturn, 1) := by decide +kernel
set_option maxRecDepth 20000 in
theorem ggX0_arrange_X0_dependsOn : GoodIn wsX0_arrange wsX0_dependsOn := goodIn_r _ [10, 5, 19, 20, 21, 22, 23, 24, 25, 26, 27, 28, 29, 30, 31] (by decide +kernel) (by decide +kernel)
set_option maxRecDepth 20000 in
theorem gX0_arrange_X0_dependsOn : GoodIn wsX0_arrange (wsV RX0 67 RX0 yX0_dependsOn wsX0_dependsOn) := goodIn_app (goodIn_of _ (by decide +kernel)) ggX0_arrange_X0_dependsOn
set_option maxRecDepth 20000 in
theorem ggX0_arrange_X0_levelAbove : GoodIn wsX0_arrange wsX0_levelAbove := goodIn_r _ [14, 1, 4, 15, 16, 17, 18, 19, 20, 21, 22, 23, 24, 25, 26, 27, 28, 29, 30, 31] (by decide +kernel) (by decide +kernel)
set_option maxRecDepth 20000 in
theorem gX0_arrange_X0_levelAbove : GoodIn wsX0_arrange (wsV RX0 71 RX0 yX0_levelAbove wsX0_levelAbove) := goodIn_app (goodIn_of _ (by decide +kernel)) ggX0_arrange_X0_levelAbove
theorem dX0_arrange_0 : decode cX0_arrange 0 = .ok (.lconst 0, 1) := by decide +kernel
theorem dX0_arrange_1 : decode cX0_arrange 1 = .ok (.lstore_n 1, 1) := by decide +kernel
theorem dX0_arrange_2 : decode cX0_arrange 2 = .ok (.iconst 0, 1) := by decide +kernel
theorem dX0_arrange_3 : decode cX0_arrange 3 = .ok (.istore_n 3, 1) := by decide +kernel
theorem dX0_arrange_4 : decode cX0_arrange 4 = .ok (.iconst 0, 1) := by decide +kernel
theorem dX0_arrange_5 : decode cX0_arrange 5 = .ok (.istore 4, 2) := by decide +kernel
theorem dX0_arrange_7 : decode cX0_arrange 7 = .ok (.iload 4, 2) := by decide +kernel
theorem dX0_arrange_9 : decode cX0_arrange 9 = .ok (.aload_n 0, 1) := by decide +kernel
theorem dX0_arrange_10 : decode cX0_arrange 10 = .ok (.getfield 46, 3) := by decide +kernel
theorem dX0_arrange_13 : decode cX0_arrange 13 = .ok (.if_icmp .ge 116, 3) := by decide +kernel
theorem dX0_arrange_16 : decode cX0_arrange 16 = .ok (.iload_n 3, 1) := by decide +kernel
theorem dX0_arrange_17 : decode cX0_arrange 17 = .ok (.aload_n 0, 1) := by decide +kernel
theorem dX0_arrange_18 : decode cX0_arrange 18 = .ok (.getfield 46, 3) := by decide +kernel
theorem dX0_arrange_21 : decode cX0_arrange 21 = .ok (.if_icmp .ge 108, 3) := by decide +kernel
theorem dX0_arrange_24 : decode cX0_arrange 24 = .ok (.iconst 0, 1) := by decide +kernel
theorem dX0_arrange_25 : decode cX0_arrange 25 = .ok (.istore 5, 2) := by decide +kernel
theorem dX0_arrange_27 : decode cX0_arrange 27 = .ok (.iload 5, 2) := by decide +kernel
theorem dX0_arrange_29 : decode cX0_arrange 29 = .ok (.aload_n 0, 1) := by decide +kernel
theorem dX0_arrange_30 : decode cX0_arrange 30 = .ok (.getfield 46, 3) := by decide +kernel
theorem dX0_arrange_33 : decode cX0_arrange 33 = .ok (.if_icmp .ge 90, 3) := by decide +kernel
theorem dX0_arrange_36 : decode cX0_arrange 36 = .ok (.iload_n 3, 1) := by decide +kernel
theorem dX0_arrange_37 : decode cX0_arrange 37 = .ok (.aload_n 0, 1) := by decide +kernel
theorem dX0_arrange_38 : decode cX0_arrange 38 = .ok (.getfield 46, 3) := by decide +kernel
theorem dX0_arrange_41 : decode cX0_arrange 41 = .ok (.if_icmp .ge 82, 3) := by decide +kernel
theorem dX0_arrange_44 : decode cX0_arrange 44 = .ok (.lload_n 1, 1) := by decide +kernel
theorem dX0_arrange_45 : decode cX0_arrange 45 = .ok (.iload 5, 2) := by decide +kernel
theorem dX0_arrange_47 : decode cX0_arrange 47 = .ok (.lushr, 1) := by decide +kernel
theorem dX0_arrange_48 : decode cX0_arrange 48 = .ok (.lconst 1, 1) := by decide +kernel
theorem dX0_arrange_49 : decode cX0_arrange 49 = .ok (.land, 1) := by decide +kernel
theorem dX0_arrange_50 : decode cX0_arrange 50 = .ok (.lconst 1, 1) := by decide +kernel
theorem dX0_arrange_51 : decode cX0_arrange 51 = .ok (.lcmp, 1) := by decide +kernel
theorem dX0_arrange_52 : decode cX0_arrange 52 = .ok (.ifCond .ne 7, 3) := by decide +kernel
theorem dX0_arrange_55 : decode cX0_arrange 55 = .ok (.iconst 1, 1) := by decide +kernel
theorem dX0_arrange_56 : decode cX0_arrange 56 = .ok (.goto 4, 3) := by decide +kernel
theorem dX0_arrange_59 : decode cX0_arrange 59 = .ok (.iconst 0, 1) := by decide +kernel
theorem dX0_arrange_60 : decode cX0_arrange 60 = .ok (.istore 6, 2) := by decide +kernel
theorem dX0_arrange_62 : decode cX0_arrange 62 = .ok (.iload 6, 2) := by decide +kernel
theorem dX0_arrange_64 : decode cX0_arrange 64 = .ok (.ifCond .ne 53, 3) := by decide +kernel
theorem dX0_arrange_67 : decode cX0_arrange 67 = .ok (.aload_n 0, 1) := by decide +kernel
theorem dX0_arrange_68 : decode cX0_arrange 68 = .ok (.iload 5, 2) := by decide +kernel
theorem dX0_arrange_70 : decode cX0_arrange 70 = .ok (.lload_n 1, 1) := by decide +kernel
theorem dX0_arrange_71 : decode cX0_arrange 71 = .ok (.ldc2_w 65, 3) := by decide +kernel
theorem dX0_arrange_74 : decode cX0_arrange 74 = .ok (.lxor, 1) := by decide +kernel
theorem dX0_arrange_75 : decode cX0_arrange 75 = .ok (.invokevirtual 67, 3) := by decide +kernel
theorem dX0_arrange_78 : decode cX0_arrange 78 = .ok (.ifCond .ne 39, 3) := by decide +kernel
theorem dX0_arrange_81 : decode cX0_arrange 81 = .ok (.aload_n 0, 1) := by decide +kernel
theorem dX0_arrange_82 : decode cX0_arrange 82 = .ok (.getfield 43, 3) := by decide +kernel
theorem dX0_arrange_85 : decode cX0_arrange 85 = .ok (.iload_n 3, 1) := by decide +kernel
theorem dX0_arrange_86 : decode cX0_arrange 86 = .ok (.iload 5, 2) := by decide +kernel
theorem dX0_arrange_88 : decode cX0_arrange 88 = .ok (.iastore, 1) := by decide +kernel
theorem dX0_arrange_89 : decode cX0_arrange 89 = .ok (.iinc 3 1, 3) := by decide +kernel
theorem dX0_arrange_92 : decode cX0_arrange 92 = .ok (.lload_n 1, 1) := by decide +kernel
theorem dX0_arrange_93 : decode cX0_arrange 93 = .ok (.lconst 1, 1) := by decide +kernel
theorem dX0_arrange_94 : decode cX0_arrange 94 = .ok (.iload 5, 2) := by decide +kernel
theorem dX0_arrange_96 : decode cX0_arrange 96 = .ok (.lshl, 1) := by decide +kernel
theorem dX0_arrange_97 : decode cX0_arrange 97 = .ok (.lor, 1) := by decide +kernel
theorem dX0_arrange_98 : decode cX0_arrange 98 = .ok (.lstore_n 1, 1) := by decide +kernel
theorem dX0_arrange_99 : decode cX0_arrange 99 = .ok (.aload_n 0, 1) := by decide +kernel
theorem dX0_arrange_100 : decode cX0_arrange 100 = .ok (.getfield 40, 3) := by decide +kernel
theorem dX0_arrange_103 : decode cX0_arrange 103 = .ok (.iload 5, 2) := by decide +kernel
theorem dX0_arrange_105 : decode cX0_arrange 105 = .ok (.aload_n 0, 1) := by decide +kernel
theorem dX0_arrange_106 : decode cX0_arrange 106 = .ok (.aload_n 0, 1) := by decide +kernel
theorem dX0_arrange_107 : decode cX0_arrange 107 = .ok (.getfield 37, 3) := by decide +kernel
theorem dX0_arrange_110 : decode cX0_arrange 110 = .ok (.iload 5, 2) := by decide +kernel
theorem dX0_arrange_112 : decode cX0_arrange 112 = .ok (.laload, 1) := by decide +kernel
theorem dX0_arrange_113 : decode cX0_arrange 113 = .ok (.invokevirtual 71, 3) := by decide +kernel
theorem dX0_arrange_116 : decode cX0_arrange 116 = .ok (.iastore, 1) := by decide +kernel
theorem dX0_arrange_117 : decode cX0_arrange 117 = .ok (.iinc 5 1, 3) := by decide +kernel
theorem dX0_arrange_120 : decode cX0_arrange 120 = .ok (.goto (-93), 3) := by decide +kernel
theorem dX0_arrange_123 : decode cX0_arrange 123 = .ok (.iinc 4 1, 3) := by decide +kernel
theorem dX0_arrange_126 : decode cX0_arrange 126 = .ok (.goto (-119), 3) := by decide +kernel
theorem dX0_arrange_129 : decode cX0_arrange 129 = .ok (.return_, 1) := by decide +kernel
theorem dX0_levelAbove_0 : decode cX0_levelAbove 0 = .ok (.iconst 0, 1) := by decide +kernel
theorem dX0_levelAbove_1 : decode cX0_levelAbove 1 = .ok (.istore_n 3, 1) := by decide +kernel
theorem dX0_levelAbove_2 : decode cX0_levelAbove 2 = .ok (.iconst 0, 1) := by decide +kernel
theorem dX0_levelAbove_3 : decode cX0_levelAbove 3 = .ok (.istore 4, 2) := by decide +kernel
theorem dX0_levelAbove_5 : decode cX0_levelAbove 5 = .ok (.iload 4, 2) := by decide +kernel
theorem dX0_levelAbove_7 : decode cX0_levelAbove 7 = .ok (.aload_n 0, 1) := by decide +kernel
theorem dX0_levelAbove_8 : decode cX0_levelAbove 8 = .ok (.getfield 46, 3) := by decide +kernel
theorem dX0_levelAbove_11 : decode cX0_levelAbove 11 = .ok (.if_icmp .ge 34, 3) := by decide +kernel
theorem dX0_levelAbove_14 : decode cX0_levelAbove 14 = .ok (.lload_n 1, 1) := by decide +kernel
theorem dX0_levelAbove_15 : decode cX0_levelAbove 15 = .ok (.iload 4, 2) := by decide +kernel
theorem dX0_levelAbove_17 : decode cX0_levelAbove 17 = .ok (.lushr, 1) := by decide +kernel
theorem dX0_levelAbove_18 : decode cX0_levelAbove 18 = .ok (.lconst 1, 1) := by decide +kernel
theorem dX0_levelAbove_19 : decode cX0_levelAbove 19 = .ok (.land, 1) := by decide +kernel
theorem dX0_levelAbove_20 : decode cX0_levelAbove 20 = .ok (.lconst 1, 1) := by decide +kernel
theorem dX0_levelAbove_21 : decode cX0_levelAbove 21 = .ok (.lcmp, 1) := by decide +kernel
theorem dX0_levelAbove_22 : decode cX0_levelAbove 22 = .ok (.ifCond .ne 17, 3) := by decide +kernel
theorem dX0_levelAbove_25 : decode cX0_levelAbove 25 = .ok (.iload_n 3, 1) := by decide +kernel
theorem dX0_levelAbove_26 : decode cX0_levelAbove 26 = .ok (.aload_n 0, 1) := by decide +kernel
theorem dX0_levelAbove_27 : decode cX0_levelAbove 27 = .ok (.getfield 40, 3) := by decide +kernel
theorem dX0_levelAbove_30 : decode cX0_levelAbove 30 = .ok (.iload 4, 2) := by decide +kernel
theorem dX0_levelAbove_32 : decode cX0_levelAbove 32 = .ok (.iaload, 1) := by decide +kernel
theorem dX0_levelAbove_33 : decode cX0_levelAbove 33 = .ok (.iconst 1, 1) := by decide +kernel
theorem dX0_levelAbove_34 : decode cX0_levelAbove 34 = .ok (.iadd, 1) := by decide +kernel
theorem dX0_levelAbove_35 : decode cX0_levelAbove 35 = .ok (.invokestatic 75, 3) := by decide +kernel
theorem dX0_levelAbove_38 : decode cX0_levelAbove 38 = .ok (.istore_n 3, 1) := by decide +kernel
theorem dX0_levelAbove_39 : decode cX0_levelAbove 39 = .ok (.iinc 4 1, 3) := by decide +kernel
theorem dX0_levelAbove_42 : decode cX0_levelAbove 42 = .ok (.goto (-37), 3) := by decide +kernel
theorem dX0_levelAbove_45 : decode cX0_levelAbove 45 = .ok (.iload_n 3, 1) := by decide +kernel
theorem dX0_levelAbove_46 : decode cX0_levelAbove 46 = .ok (.ireturn, 1) := by decide +kernel
theorem dX1_init_0 : decode cX1_init 0 = .ok (.aload_n 0, 1) := by decide +kernel
theorem dX1_init_1 : decode cX1_init 1 = .ok (.invokespecial 1, 3) := by decide +kernel
theorem dX1_init_4 : decode cX1_init 4 = .ok (.return_, 1) := by decide +kernel
theorem dX1_begin_0 : decode cX1_begin 0 = .ok (.aload_n 0, 1) := by decide +kernel
theorem dX1_begin_1 : decode cX1_begin 1 = .ok (.aload_n 1, 1) := by decide +kernel
theorem dX1_begin_2 : decode cX1_begin 2 = .ok (.putfield 7, 3) := by decide +kernel
theorem dX1_begin_5 : decode cX1_begin 5 = .ok (.aload_n 0, 1) := by decide +kernel
theorem dX1_begin_6 : decode cX1_begin 6 = .ok (.iload_n 2, 1) := by decide +kernel
theorem dX1_begin_7 : decode cX1_begin 7 = .ok (.aload_n 1, 1) := by decide +kernel
theorem dX1_begin_8 : decode cX1_begin 8 = .ok (.arraylength, 1) := by decide +kernel
theorem dX1_begin_9 : decode cX1_begin 9 = .ok (.invokestatic 13, 3) := by decide +kernel
theorem dX1_begin_12 : decode cX1_begin 12 = .ok (.putfield 19, 3) := by decide +kernel
theorem dX1_begin_15 : decode cX1_begin 15 = .ok (.aload_n 0, 1) := by decide +kernel
theorem dX1_begin_16 : decode cX1_begin 16 = .ok (.iconst 0, 1) := by decide +kernel
theorem dX1_begin_17 : decode cX1_begin 17 = .ok (.putfield 23, 3) := by decide +kernel
theorem dX1_begin_20 : decode cX1_begin 20 = .ok (.return_, 1) := by decide +kernel
set_option maxRecDepth 20000 in
theorem ggX1_advance_X1_isBlank : GoodIn wsX1_advance wsX1_isBlank := goodIn_r _ [9] (by decide +kernel) (by decide +kernel)
set_option maxRecDepth 20000 in
theorem gX1_advance_X1_isBlank : GoodIn wsX1_advance (va_wsS RX1 26 yX1_isBlank wsX1_isBlank) := goodIn_app (goodIn_of _ (by decide +kernel)) ggX1_advance_X1_isBlank
set_option maxRecDepth 20000 in
theorem ggX1_advance_X1_isLetter : GoodIn wsX1_advance wsX1_isLetter := goodIn_r _ [12] (by decide +kernel) (by decide +kernel)
set_option maxRecDepth 20000 in
theorem gX1_advance_X1_isLetter : GoodIn wsX1_advance (va_wsS RX1 36 yX1_isLetter wsX1_isLetter) := goodIn_app (goodIn_of _ (by decide +kernel)) ggX1_advance_X1_isLetter
set_option maxRecDepth 20000 in
theorem ggX1_advance_X1_takeWord : GoodIn wsX1_advance wsX1_takeWord := goodIn_r _ [16, 17, 1, 2, 3, 4, 5, 18, 19, 8, 20, 10, 11, 12, 21, 22, 23, 32, 33, 34, 35, 36, 37, 38] (by decide +kernel) (by decide +kernel)
set_option maxRecDepth 20000 in
theorem gX1_advance_X1_takeWord : GoodIn wsX1_advance (wsV RX1 39 RX1 yX1_takeWord wsX1_takeWord) := goodIn_app (goodIn_of _ (by decide +kernel)) ggX1_advance_X1_takeWord
set_option maxRecDepth 20000 in
theorem ggX1_advance_X1_isDigit : GoodIn wsX1_advance wsX1_isDigit := goodIn_r _ [23] (by decide +kernel) (by decide +kernel)
set_option maxRecDepth 20000 in
theorem gX1_advance_X1_isDigit : GoodIn wsX1_advance (va_wsS RX1 42 yX1_isDigit wsX1_isDigit) := goodIn_app (goodIn_of _ (by decide +kernel)) ggX1_advance_X1_isDigit
set_option maxRecDepth 20000 in
theorem ggX1_advance_X1_takeDigit : GoodIn wsX1_advance wsX1_takeDigit := goodIn_r _ [27, 3, 1, 28, 2, 5, 18, 19, 8, 20, 10, 11, 12, 21, 22, 23, 32, 33, 34, 35, 36, 37, 38] (by decide +kernel) (by decide +kernel)
set_option maxRecDepth 20000 in
theorem gX1_advance_X1_takeDigit : GoodIn wsX1_advance (wsV RX1 45 RX1 yX1_takeDigit wsX1_takeDigit) := goodIn_app (goodIn_of _ (by decide +kernel)) ggX1_advance_X1_takeDigit
set_option maxRecDepth 20000 in
theorem ggX1_advance_X1_isSign : GoodIn wsX1_advance wsX1_isSign := goodIn_r _ [31] (by decide +kernel) (by decide +kernel)
set_option maxRecDepth 20000 in
theorem gX1_advance_X1_isSign : GoodIn wsX1_advance (va_wsS RX1 48 yX1_isSign wsX1_isSign) := goodIn_app (goodIn_of _ (by decide +kernel)) ggX1_advance_X1_isSign
theorem dX1_advance_0 : decode cX1_advance 0 = .ok (.aload_n 0, 1) := by decide +kernel
theorem dX1_advance_1 : decode cX1_advance 1 = .ok (.getfield 23, 3) := by decide +kernel
theorem dX1_advance_4 : decode cX1_advance 4 = .ok (.aload_n 0, 1) := by decide +kernel
theorem dX1_advance_5 : decode cX1_advance 5 = .ok (.getfield 19, 3) := by decide +kernel
theorem dX1_advance_8 : decode cX1_advance 8 = .ok (.if_icmp .ge 31, 3) := by decide +kernel
theorem dX1_advance_11 : decode cX1_advance 11 = .ok (.aload_n 0, 1) := by decide +kernel
theorem dX1_advance_12 : decode cX1_advance 12 = .ok (.getfield 7, 3) := by decide +kernel
theorem dX1_advance_15 : decode cX1_advance 15 = .ok (.aload_n 0, 1) := by decide +kernel
theorem dX1_advance_16 : decode cX1_advance 16 = .ok (.getfield 23, 3) := by decide +kernel
theorem dX1_advance_19 : decode cX1_advance 19 = .ok (.baload, 1) := by decide +kernel
theorem dX1_advance_20 : decode cX1_advance 20 = .ok (.invokestatic 26, 3) := by decide +kernel
theorem dX1_advance_23 : decode cX1_advance 23 = .ok (.ifCond .eq 16, 3) := by decide +kernel
theorem dX1_advance_26 : decode cX1_advance 26 = .ok (.aload_n 0, 1) := by decide +kernel
theorem dX1_advance_27 : decode cX1_advance 27 = .ok (.dup, 1) := by decide +kernel
theorem dX1_advance_28 : decode cX1_advance 28 = .ok (.getfield 23, 3) := by decide +kernel
theorem dX1_advance_31 : decode cX1_advance 31 = .ok (.iconst 1, 1) := by decide +kernel
theorem dX1_advance_32 : decode cX1_advance 32 = .ok (.iadd, 1) := by decide +kernel
theorem dX1_advance_33 : decode cX1_advance 33 = .ok (.putfield 23, 3) := by decide +kernel
theorem dX1_advance_36 : decode cX1_advance 36 = .ok (.goto (-36), 3) := by decide +kernel
theorem dX1_advance_39 : decode cX1_advance 39 = .ok (.aload_n 0, 1) := by decide +kernel
theorem dX1_advance_40 : decode cX1_advance 40 = .ok (.aload_n 0, 1) := by decide +kernel
theorem dX1_advance_41 : decode cX1_advance 41 = .ok (.getfield 23, 3) := by decide +kernel
theorem dX1_advance_44 : decode cX1_advance 44 = .ok (.putfield 30, 3) := by decide +kernel
theorem dX1_advance_47 : decode cX1_advance 47 = .ok (.aload_n 0, 1) := by decide +kernel
theorem dX1_advance_48 : decode cX1_advance 48 = .ok (.getfield 23, 3) := by decide +kernel
theorem dX1_advance_51 : decode cX1_advance 51 = .ok (.aload_n 0, 1) := by decide +kernel
theorem dX1_advance_52 : decode cX1_advance 52 = .ok (.getfield 19, 3) := by decide +kernel
theorem dX1_advance_55 : decode cX1_advance 55 = .ok (.if_icmp .lt 9, 3) := by decide +kernel
theorem dX1_advance_58 : decode cX1_advance 58 = .ok (.aload_n 0, 1) := by decide +kernel
theorem dX1_advance_59 : decode cX1_advance 59 = .ok (.iconst 1, 1) := by decide +kernel
theorem dX1_advance_60 : decode cX1_advance 60 = .ok (.putfield 33, 3) := by decide +kernel
theorem dX1_advance_63 : decode cX1_advance 63 = .ok (.return_, 1) := by decide +kernel
theorem dX1_advance_64 : decode cX1_advance 64 = .ok (.aload_n 0, 1) := by decide +kernel
theorem dX1_advance_65 : decode cX1_advance 65 = .ok (.getfield 7, 3) := by decide +kernel
theorem dX1_advance_68 : decode cX1_advance 68 = .ok (.aload_n 0, 1) := by decide +kernel
theorem dX1_advance_69 : decode cX1_advance 69 = .ok (.getfield 23, 3) := by decide +kernel
theorem dX1_advance_72 : decode cX1_advance 72 = .ok (.baload, 1) := by decide +kernel
theorem dX1_advance_73 : decode cX1_advance 73 = .ok (.istore_n 1, 1) := by decide +kernel
theorem dX1_advance_74 : decode cX1_advance 74 = .ok (.iload_n 1, 1) := by decide +kernel
theorem dX1_advance_75 : decode cX1_advance 75 = .ok (.invokestatic 36, 3) := by decide +kernel
theorem dX1_advance_78 : decode cX1_advance 78 = .ok (.ifCond .eq 10, 3) := by decide +kernel
theorem dX1_advance_81 : decode cX1_advance 81 = .ok (.aload_n 0, 1) := by decide +kernel
theorem dX1_advance_82 : decode cX1_advance 82 = .ok (.invokevirtual 39, 3) := by decide +kernel
theorem dX1_advance_85 : decode cX1_advance 85 = .ok (.goto 43, 3) := by decide +kernel
theorem dX1_advance_88 : decode cX1_advance 88 = .ok (.iload_n 1, 1) := by decide +kernel
theorem dX1_advance_89 : decode cX1_advance 89 = .ok (.invokestatic 42, 3) := by decide +kernel
theorem dX1_advance_92 : decode cX1_advance 92 = .ok (.ifCond .eq 10, 3) := by decide +kernel
theorem dX1_advance_95 : decode cX1_advance 95 = .ok (.aload_n 0, 1) := by decide +kernel
theorem dX1_advance_96 : decode cX1_advance 96 = .ok (.invokevirtual 45, 3) := by decide +kernel
theorem dX1_advance_99 : decode cX1_advance 99 = .ok (.goto 29, 3) := by decide +kernel
theorem dX1_advance_102 : decode cX1_advance 102 = .ok (.aload_n 0, 1) := by decide +kernel
theorem dX1_advance_103 : decode cX1_advance 103 = .ok (.iload_n 1, 1) := by decide +kernel
theorem dX1_advance_104 : decode cX1_advance 104 = .ok (.invokestatic 48, 3) := by decide +kernel
theorem dX1_advance_107 : decode cX1_advance 107 = .ok (.ifCond .eq 7, 3) := by decide +kernel
theorem dX1_advance_110 : decode cX1_advance 110 = .ok (.iload_n 1, 1) := by decide +kernel
theorem dX1_advance_111 : decode cX1_advance 111 = .ok (.goto 4, 3) := by decide +kernel
theorem dX1_advance_114 : decode cX1_advance 114 = .ok (.iconst 0, 1) := by decide +kernel
theorem dX1_advance_115 : decode cX1_advance 115 = .ok (.putfield 33, 3) := by decide +kernel
theorem dX1_advance_118 : decode cX1_advance 118 = .ok (.aload_n 0, 1) := by decide +kernel
theorem dX1_advance_119 : decode cX1_advance 119 = .ok (.dup, 1) := by decide +kernel
theorem dX1_advance_120 : decode cX1_advance 120 = .ok (.getfield 23, 3) := by decide +kernel
theorem dX1_advance_123 : decode cX1_advance 123 = .ok (.iconst 1, 1) := by decide +kernel
theorem dX1_advance_124 : decode cX1_advance 124 = .ok (.iadd, 1) := by decide +kernel
theorem dX1_advance_125 : decode cX1_advance 125 = .ok (.putfield 23, 3) := by decide +kernel
theorem dX1_advance_128 : decode cX1_advance 128 = .ok (.return_, 1) := by decide +kernel
set_option maxRecDepth 20000 in
theorem ggX1_takeWord_X1_isLetterOrDigit : GoodIn wsX1_takeWord wsX1_isLetterOrDigit := goodIn_r _ [10, 11, 12, 9, 13, 14, 15, 16] (by decide +kernel) (by decide +kernel)
set_option maxRecDepth 20000 in
theorem gX1_takeWord_X1_isLetterOrDigit : GoodIn wsX1_takeWord (va_wsS RX1 55 yX1_isLetterOrDigit wsX1_isLetterOrDigit) := goodIn_app (goodIn_of _ (by decide +kernel)) ggX1_takeWord_X1_isLetterOrDigit
theorem dX1_takeWord_0 : decode cX1_takeWord 0 = .ok (.aload_n 0, 1) := by decide +kernel
theorem dX1_takeWord_1 : decode cX1_takeWord 1 = .ok (.lconst 0, 1) := by decide +kernel
theorem dX1_takeWord_2 : decode cX1_takeWord 2 = .ok (.putfield 51, 3) := by decide +kernel
theorem dX1_takeWord_5 : decode cX1_takeWord 5 = .ok (.aload_n 0, 1) := by decide +kernel
theorem dX1_takeWord_6 : decode cX1_takeWord 6 = .ok (.getfield 23, 3) := by decide +kernel
theorem dX1_takeWord_9 : decode cX1_takeWord 9 = .ok (.aload_n 0, 1) := by decide +kernel
theorem dX1_takeWord_10 : decode cX1_takeWord 10 = .ok (.getfield 19, 3) := by decide +kernel
theorem dX1_takeWord_13 : decode cX1_takeWord 13 = .ok (.if_icmp .ge 53, 3) := by decide +kernel
theorem dX1_takeWord_16 : decode cX1_takeWord 16 = .ok (.aload_n 0, 1) := by decide +kernel
theorem dX1_takeWord_17 : decode cX1_takeWord 17 = .ok (.getfield 7, 3) := by decide +kernel
theorem dX1_takeWord_20 : decode cX1_takeWord 20 = .ok (.aload_n 0, 1) := by decide +kernel
theorem dX1_takeWord_21 : decode cX1_takeWord 21 = .ok (.getfield 23, 3) := by decide +kernel
theorem dX1_takeWord_24 : decode cX1_takeWord 24 = .ok (.baload, 1) := by decide +kernel
theorem dX1_takeWord_25 : decode cX1_takeWord 25 = .ok (.invokestatic 55, 3) := by decide +kernel
theorem dX1_takeWord_28 : decode cX1_takeWord 28 = .ok (.ifCond .eq 38, 3) := by decide +kernel
theorem dX1_takeWord_31 : decode cX1_takeWord 31 = .ok (.aload_n 0, 1) := by decide +kernel
theorem dX1_takeWord_32 : decode cX1_takeWord 32 = .ok (.aload_n 0, 1) := by decide +kernel
theorem dX1_takeWord_33 : decode cX1_takeWord 33 = .ok (.getfield 51, 3) := by decide +kernel
theorem dX1_takeWord_36 : decode cX1_takeWord 36 = .ok (.bipush 8, 2) := by decide +kernel
theorem dX1_takeWord_38 : decode cX1_takeWord 38 = .ok (.lshl, 1) := by decide +kernel
theorem dX1_takeWord_39 : decode cX1_takeWord 39 = .ok (.aload_n 0, 1) := by decide +kernel
theorem dX1_takeWord_40 : decode cX1_takeWord 40 = .ok (.getfield 7, 3) := by decide +kernel
theorem dX1_takeWord_43 : decode cX1_takeWord 43 = .ok (.aload_n 0, 1) := by decide +kernel
theorem dX1_takeWord_44 : decode cX1_takeWord 44 = .ok (.getfield 23, 3) := by decide +kernel
theorem dX1_takeWord_47 : decode cX1_takeWord 47 = .ok (.baload, 1) := by decide +kernel
theorem dX1_takeWord_48 : decode cX1_takeWord 48 = .ok (.i2l, 1) := by decide +kernel
theorem dX1_takeWord_49 : decode cX1_takeWord 49 = .ok (.lor, 1) := by decide +kernel
theorem dX1_takeWord_50 : decode cX1_takeWord 50 = .ok (.putfield 51, 3) := by decide +kernel
theorem dX1_takeWord_53 : decode cX1_takeWord 53 = .ok (.aload_n 0, 1) := by decide +kernel
theorem dX1_takeWord_54 : decode cX1_takeWord 54 = .ok (.dup, 1) := by decide +kernel
theorem dX1_takeWord_55 : decode cX1_takeWord 55 = .ok (.getfield 23, 3) := by decide +kernel
theorem dX1_takeWord_58 : decode cX1_takeWord 58 = .ok (.iconst 1, 1) := by decide +kernel
theorem dX1_takeWord_59 : decode cX1_takeWord 59 = .ok (.iadd, 1) := by decide +kernel
theorem dX1_takeWord_60 : decode cX1_takeWord 60 = .ok (.putfield 23, 3) := by decide +kernel
theorem dX1_takeWord_63 : decode cX1_takeWord 63 = .ok (.goto (-58), 3) := by decide +kernel
theorem dX1_takeWord_66 : decode cX1_takeWord 66 = .ok (.aload_n 0, 1) := by decide +kernel
theorem dX1_takeWord_67 : decode cX1_takeWord 67 = .ok (.aload_n 0, 1) := by decide +kernel
theorem dX1_takeWord_68 : decode cX1_takeWord 68 = .ok (.getfield 23, 3) := by decide +kernel
theorem dX1_takeWord_71 : decode cX1_takeWord 71 = .ok (.aload_n 0, 1) := by decide +kernel
theorem dX1_takeWord_72 : decode cX1_takeWord 72 = .ok (.getfield 30, 3) := by decide +kernel
theorem dX1_takeWord_75 : decode cX1_takeWord 75 = .ok (.isub, 1) := by decide +kernel
theorem dX1_takeWord_76 : decode cX1_takeWord 76 = .ok (.bipush 8, 2) := by decide +kernel
theorem dX1_takeWord_78 : decode cX1_takeWord 78 = .ok (.if_icmp .le 7, 3) := by decide +kernel
theorem dX1_takeWord_81 : decode cX1_takeWord 81 = .ok (.iconst 0, 1) := by decide +kernel
theorem dX1_takeWord_82 : decode cX1_takeWord 82 = .ok (.goto 4, 3) := by decide +kernel
theorem dX1_takeWord_85 : decode cX1_takeWord 85 = .ok (.iconst 2, 1) := by decide +kernel
theorem dX1_takeWord_86 : decode cX1_takeWord 86 = .ok (.putfield 33, 3) := by decide +kernel
theorem dX1_takeWord_89 : decode cX1_takeWord 89 = .ok (.return_, 1) := by decide +kernel
set_option maxRecDepth 20000 in
theorem ggX1_takeDigit_X1_isLetterOrDigit : GoodIn wsX1_takeDigit wsX1_isLetterOrDigit := goodIn_r _ [9, 10, 11, 8, 12, 13, 14, 15] (by decide +kernel) (by decide +kernel)
set_option maxRecDepth 20000 in
theorem gX1_takeDigit_X1_isLetterOrDigit : GoodIn wsX1_takeDigit (va_wsS RX1 55 yX1_isLetterOrDigit wsX1_isLetterOrDigit) := goodIn_app (goodIn_of _ (by decide +kernel)) ggX1_takeDigit_X1_isLetterOrDigit
theorem dX1_takeDigit_0 : decode cX1_takeDigit 0 = .ok (.aload_n 0, 1) := by decide +kernel
theorem dX1_takeDigit_1 : decode cX1_takeDigit 1 = .ok (.aload_n 0, 1) := by decide +kernel
theorem dX1_takeDigit_2 : decode cX1_takeDigit 2 = .ok (.getfield 7, 3) := by decide +kernel
theorem dX1_takeDigit_5 : decode cX1_takeDigit 5 = .ok (.aload_n 0, 1) := by decide +kernel
theorem dX1_takeDigit_6 : decode cX1_takeDigit 6 = .ok (.getfield 23, 3) := by decide +kernel
theorem dX1_takeDigit_9 : decode cX1_takeDigit 9 = .ok (.baload, 1) := by decide +kernel
theorem dX1_takeDigit_10 : decode cX1_takeDigit 10 = .ok (.bipush 48, 2) := by decide +kernel
theorem dX1_takeDigit_12 : decode cX1_takeDigit 12 = .ok (.isub, 1) := by decide +kernel
theorem dX1_takeDigit_13 : decode cX1_takeDigit 13 = .ok (.putfield 58, 3) := by decide +kernel
theorem dX1_takeDigit_16 : decode cX1_takeDigit 16 = .ok (.aload_n 0, 1) := by decide +kernel
theorem dX1_takeDigit_17 : decode cX1_takeDigit 17 = .ok (.dup, 1) := by decide +kernel
theorem dX1_takeDigit_18 : decode cX1_takeDigit 18 = .ok (.getfield 23, 3) := by decide +kernel
theorem dX1_takeDigit_21 : decode cX1_takeDigit 21 = .ok (.iconst 1, 1) := by decide +kernel
theorem dX1_takeDigit_22 : decode cX1_takeDigit 22 = .ok (.iadd, 1) := by decide +kernel
theorem dX1_takeDigit_23 : decode cX1_takeDigit 23 = .ok (.putfield 23, 3) := by decide +kernel
theorem dX1_takeDigit_26 : decode cX1_takeDigit 26 = .ok (.aload_n 0, 1) := by decide +kernel
theorem dX1_takeDigit_27 : decode cX1_takeDigit 27 = .ok (.getfield 23, 3) := by decide +kernel
theorem dX1_takeDigit_30 : decode cX1_takeDigit 30 = .ok (.aload_n 0, 1) := by decide +kernel
theorem dX1_takeDigit_31 : decode cX1_takeDigit 31 = .ok (.getfield 19, 3) := by decide +kernel
theorem dX1_takeDigit_34 : decode cX1_takeDigit 34 = .ok (.if_icmp .ge 18, 3) := by decide +kernel
theorem dX1_takeDigit_37 : decode cX1_takeDigit 37 = .ok (.aload_n 0, 1) := by decide +kernel
theorem dX1_takeDigit_38 : decode cX1_takeDigit 38 = .ok (.getfield 7, 3) := by decide +kernel
theorem dX1_takeDigit_41 : decode cX1_takeDigit 41 = .ok (.aload_n 0, 1) := by decide +kernel
theorem dX1_takeDigit_42 : decode cX1_takeDigit 42 = .ok (.getfield 23, 3) := by decide +kernel
theorem dX1_takeDigit_45 : decode cX1_takeDigit 45 = .ok (.baload, 1) := by decide +kernel
theorem dX1_takeDigit_46 : decode cX1_takeDigit 46 = .ok (.invokestatic 55, 3) := by decide +kernel
theorem dX1_takeDigit_49 : decode cX1_takeDigit 49 = .ok (.ifCond .ne 7, 3) := by decide +kernel
theorem dX1_takeDigit_52 : decode cX1_takeDigit 52 = .ok (.iconst 1, 1) := by decide +kernel
theorem dX1_takeDigit_53 : decode cX1_takeDigit 53 = .ok (.goto 4, 3) := by decide +kernel
theorem dX1_takeDigit_56 : decode cX1_takeDigit 56 = .ok (.iconst 0, 1) := by decide +kernel
theorem dX1_takeDigit_57 : decode cX1_takeDigit 57 = .ok (.istore_n 1, 1) := by decide +kernel
theorem dX1_takeDigit_58 : decode cX1_takeDigit 58 = .ok (.aload_n 0, 1) := by decide +kernel
theorem dX1_takeDigit_59 : decode cX1_takeDigit 59 = .ok (.iload_n 1, 1) := by decide +kernel
theorem dX1_takeDigit_60 : decode cX1_takeDigit 60 = .ok (.ifCond .eq 14, 3) := by decide +kernel
theorem dX1_takeDigit_63 : decode cX1_takeDigit 63 = .ok (.aload_n 0, 1) := by decide +kernel
theorem dX1_takeDigit_64 : decode cX1_takeDigit 64 = .ok (.getfield 58, 3) := by decide +kernel
theorem dX1_takeDigit_67 : decode cX1_takeDigit 67 = .ok (.ifCond .le 7, 3) := by decide +kernel
theorem dX1_takeDigit_70 : decode cX1_takeDigit 70 = .ok (.iconst 3, 1) := by decide +kernel
theorem dX1_takeDigit_71 : decode cX1_takeDigit 71 = .ok (.goto 4, 3) := by decide +kernel
theorem dX1_takeDigit_74 : decode cX1_takeDigit 74 = .ok (.iconst 0, 1) := by decide +kernel
theorem dX1_takeDigit_75 : decode cX1_takeDigit 75 = .ok (.putfield 33, 3) := by decide +kernel
theorem dX1_takeDigit_78 : decode cX1_takeDigit 78 = .ok (.return_, 1) := by decide +kernel
theorem dX1_isBlank_0 : decode cX1_isBlank 0 = .ok (.iload_n 0, 1) := by decide +kernel
theorem dX1_isBlank_1 : decode cX1_isBlank 1 = .ok (.bipush 32, 2) := by decide +kernel
theorem dX1_isBlank_3 : decode cX1_isBlank 3 = .ok (.if_icmp .eq 9, 3) := by decide +kernel
theorem dX1_isBlank_6 : decode cX1_isBlank 6 = .ok (.iload_n 0, 1) := by decide +kernel
theorem dX1_isBlank_7 : decode cX1_isBlank 7 = .ok (.bipush 10, 2) := by decide +kernel
theorem dX1_isBlank_9 : decode cX1_isBlank 9 = .ok (.if_icmp .ne 7, 3) := by decide +kernel
theorem dX1_isBlank_12 : decode cX1_isBlank 12 = .ok (.iconst 1, 1) := by decide +kernel
theorem dX1_isBlank_13 : decode cX1_isBlank 13 = .ok (.goto 4, 3) := by decide +kernel
theorem dX1_isBlank_16 : decode cX1_isBlank 16 = .ok (.iconst 0, 1) := by decide +kernel
theorem dX1_isBlank_17 : decode cX1_isBlank 17 = .ok (.ireturn, 1) := by decide +kernel
theorem dX1_isLetter_0 : decode cX1_isLetter 0 = .ok (.iload_n 0, 1) := by decide +kernel
theorem dX1_isLetter_1 : decode cX1_isLetter 1 = .ok (.bipush 97, 2) := by decide +kernel
theorem dX1_isLetter_3 : decode cX1_isLetter 3 = .ok (.if_icmp .lt 13, 3) := by decide +kernel
theorem dX1_isLetter_6 : decode cX1_isLetter 6 = .ok (.iload_n 0, 1) := by decide +kernel
theorem dX1_isLetter_7 : decode cX1_isLetter 7 = .ok (.bipush 122, 2) := by decide +kernel
theorem dX1_isLetter_9 : decode cX1_isLetter 9 = .ok (.if_icmp .gt 7, 3) := by decide +kernel
theorem dX1_isLetter_12 : decode cX1_isLetter 12 = .ok (.iconst 1, 1) := by decide +kernel
theorem dX1_isLetter_13 : decode cX1_isLetter 13 = .ok (.goto 4, 3) := by decide +kernel
theorem dX1_isLetter_16 : decode cX1_isLetter 16 = .ok (.iconst 0, 1) := by decide +kernel
theorem dX1_isLetter_17 : decode cX1_isLetter 17 = .ok (.ireturn, 1) := by decide +kernel
theorem dX1_isDigit_0 : decode cX1_isDigit 0 = .ok (.iload_n 0, 1) := by decide +kernel
theorem dX1_isDigit_1 : decode cX1_isDigit 1 = .ok (.bipush 48, 2) := by decide +kernel
theorem dX1_isDigit_3 : decode cX1_isDigit 3 = .ok (.if_icmp .lt 13, 3) := by decide +kernel
theorem dX1_isDigit_6 : decode cX1_isDigit 6 = .ok (.iload_n 0, 1) := by decide +kernel
theorem dX1_isDigit_7 : decode cX1_isDigit 7 = .ok (.bipush 57, 2) := by decide +kernel
theorem dX1_isDigit_9 : decode cX1_isDigit 9 = .ok (.if_icmp .gt 7, 3) := by decide +kernel
theorem dX1_isDigit_12 : decode cX1_isDigit 12 = .ok (.iconst 1, 1) := by decide +kernel
theorem dX1_isDigit_13 : decode cX1_isDigit 13 = .ok (.goto 4, 3) := by decide +kernel
theorem dX1_isDigit_16 : decode cX1_isDigit 16 = .ok (.iconst 0, 1) := by decide +kernel
theorem dX1_isDigit_17 : decode cX1_isDigit 17 = .ok (.ireturn, 1) := by decide +kernel
set_option maxRecDepth 20000 in
theorem ggX1_isLetterOrDigit_X1_isLetter : GoodIn wsX1_isLetterOrDigit wsX1_isLetter := goodIn_r _ [4] (by decide +kernel) (by decide +kernel)
set_option maxRecDepth 20000 in
theorem gX1_isLetterOrDigit_X1_isLetter : GoodIn wsX1_isLetterOrDigit (va_wsS RX1 36 yX1_isLetter wsX1_isLetter) := goodIn_app (goodIn_of _ (by decide +kernel)) ggX1_isLetterOrDigit_X1_isLetter
set_option maxRecDepth 20000 in
theorem ggX1_isLetterOrDigit_X1_isDigit : GoodIn wsX1_isLetterOrDigit wsX1_isDigit := goodIn_r _ [7] (by decide +kernel) (by decide +kernel)
set_option maxRecDepth 20000 in
theorem gX1_isLetterOrDigit_X1_isDigit : GoodIn wsX1_isLetterOrDigit (va_wsS RX1 42 yX1_isDigit wsX1_isDigit) := goodIn_app (goodIn_of _ (by decide +kernel)) ggX1_isLetterOrDigit_X1_isDigit
theorem dX1_isLetterOrDigit_0 : decode cX1_isLetterOrDigit 0 = .ok (.iload_n 0, 1) := by decide +kernel
theorem dX1_isLetterOrDigit_1 : decode cX1_isLetterOrDigit 1 = .ok (.invokestatic 36, 3) := by decide +kernel
theorem dX1_isLetterOrDigit_4 : decode cX1_isLetterOrDigit 4 = .ok (.ifCond .ne 10, 3) := by decide +kernel
theorem dX1_isLetterOrDigit_7 : decode cX1_isLetterOrDigit 7 = .ok (.iload_n 0, 1) := by decide +kernel
theorem dX1_isLetterOrDigit_8 : decode cX1_isLetterOrDigit 8 = .ok (.invokestatic 42, 3) := by decide +kernel
theorem dX1_isLetterOrDigit_11 : decode cX1_isLetterOrDigit 11 = .ok (.ifCond .eq 7, 3) := by decide +kernel
theorem dX1_isLetterOrDigit_14 : decode cX1_isLetterOrDigit 14 = .ok (.iconst 1, 1) := by decide +kernel
theorem dX1_isLetterOrDigit_15 : decode cX1_isLetterOrDigit 15 = .ok (.goto 4, 3) := by decide +kernel
theorem dX1_isLetterOrDigit_18 : decode cX1_isLetterOrDigit 18 = .ok (.iconst 0, 1) := by decide +kernel
theorem dX1_isLetterOrDigit_19 : decode cX1_isLetterOrDigit 19 = .ok (.ireturn, 1) := by decide +kernel
theorem dX1_isSign_0 : decode cX1_isSign 0 = .ok (.iload_n 0, 1) := by decide +kernel
theorem dX1_isSign_1 : decode cX1_isSign 1 = .ok (.bipush 44, 2) := by decide +kernel
theorem dX1_isSign_3 : decode cX1_isSign 3 = .ok (.if_icmp .eq 33, 3) := by decide +kernel
theorem dX1_isSign_6 : decode cX1_isSign 6 = .ok (.iload_n 0, 1) := by decide +kernel
theorem dX1_isSign_7 : decode cX1_isSign 7 = .ok (.bipush 59, 2) := by decide +kernel
theorem dX1_isSign_9 : decode cX1_isSign 9 = .ok (.if_icmp .eq 27, 3) := by decide +kernel
theorem dX1_isSign_12 : decode cX1_isSign 12 = .ok (.iload_n 0, 1) := by decide +kernel
theorem dX1_isSign_13 : decode cX1_isSign 13 = .ok (.bipush 61, 2) := by decide +kernel
theorem dX1_isSign_15 : decode cX1_isSign 15 = .ok (.if_icmp .eq 21, 3) := by decide +kernel
theorem dX1_isSign_18 : decode cX1_isSign 18 = .ok (.iload_n 0, 1) := by decide +kernel
theorem dX1_isSign_19 : decode cX1_isSign 19 = .ok (.bipush 40, 2) := by decide +kernel
theorem dX1_isSign_21 : decode cX1_isSign 21 = .ok (.if_icmp .eq 15, 3) := by decide +kernel
theorem dX1_isSign_24 : decode cX1_isSign 24 = .ok (.iload_n 0, 1) := by decide +kernel
theorem dX1_isSign_25 : decode cX1_isSign 25 = .ok (.bipush 41, 2) := by decide +kernel
theorem dX1_isSign_27 : decode cX1_isSign 27 = .ok (.if_icmp .eq 9, 3) := by decide +kernel
theorem dX1_isSign_30 : decode cX1_isSign 30 = .ok (.iload_n 0, 1) := by decide +kernel
theorem dX1_isSign_31 : decode cX1_isSign 31 = .ok (.bipush 60, 2) := by decide +kernel
theorem dX1_isSign_33 : decode cX1_isSign 33 = .ok (.if_icmp .ne 7, 3) := by decide +kernel
theorem dX1_isSign_36 : decode cX1_isSign 36 = .ok (.iconst 1, 1) := by decide +kernel
theorem dX1_isSign_37 : decode cX1_isSign 37 = .ok (.goto 4, 3) := by decide +kernel
theorem dX1_isSign_40 : decode cX1_isSign 40 = .ok (.iconst 0, 1) := by decide +kernel
theorem dX1_isSign_41 : decode cX1_isSign 41 = .ok (.ireturn, 1) := by decide +kernel
set_option maxRecDepth 20000 in
theorem ggX2_settle_X2_gateValue : GoodIn wsX2_settle wsX2_gateValue := goodIn_r _ [7, 8, 9, 10, 6, 11, 12, 13, 14, 15, 16, 17, 18, 19, 20, 21, 22, 23, 24, 25, 26, 27, 28, 29, 30, 31, 32, 44, 45, 46, 47, 48, 49, 50, 51, 52, 53, 54, 55, 56] (by decide +kernel) (by decide +kernel)
set_option maxRecDepth 20000 in
theorem gX2_settle_X2_gateValue : GoodIn wsX2_settle (va_wsS RX2 22 yX2_gateValue wsX2_gateValue) := goodIn_app (goodIn_of _ (by decide +kernel)) ggX2_settle_X2_gateValue
set_option maxRecDepth 20000 in
theorem ggX2_settle_X2_busValue : GoodIn wsX2_settle wsX2_busValue := goodIn_r _ [35, 21, 22, 23, 15, 24, 25, 26, 36, 37, 6, 38, 12, 13, 14, 16, 17, 39, 40, 41, 42, 43, 18, 19, 20, 44, 45, 46, 47, 48, 49, 50, 51, 52, 53, 54, 55, 56] (by decide +kernel) (by decide +kernel)
set_option maxRecDepth 20000 in
theorem gX2_settle_X2_busValue : GoodIn wsX2_settle (va_wsS RX2 28 yX2_busValue wsX2_busValue) := goodIn_app (goodIn_of _ (by decide +kernel)) ggX2_settle_X2_busValue
theorem dX2_settle_0 : decode cX2_settle 0 = .ok (.iconst 0, 1) := by decide +kernel
theorem dX2_settle_1 : decode cX2_settle 1 = .ok (.istore_n 2, 1) := by decide +kernel
theorem dX2_settle_2 : decode cX2_settle 2 = .ok (.iload_n 2, 1) := by decide +kernel
theorem dX2_settle_3 : decode cX2_settle 3 = .ok (.aload_n 0, 1) := by decide +kernel
theorem dX2_settle_4 : decode cX2_settle 4 = .ok (.getfield 9, 3) := by decide +kernel
theorem dX2_settle_7 : decode cX2_settle 7 = .ok (.if_icmp .ge 57, 3) := by decide +kernel
theorem dX2_settle_10 : decode cX2_settle 10 = .ok (.aload_n 0, 1) := by decide +kernel
theorem dX2_settle_11 : decode cX2_settle 11 = .ok (.getfield 15, 3) := by decide +kernel
theorem dX2_settle_14 : decode cX2_settle 14 = .ok (.iload_n 2, 1) := by decide +kernel
theorem dX2_settle_15 : decode cX2_settle 15 = .ok (.iaload, 1) := by decide +kernel
theorem dX2_settle_16 : decode cX2_settle 16 = .ok (.istore_n 3, 1) := by decide +kernel
theorem dX2_settle_17 : decode cX2_settle 17 = .ok (.aload_n 0, 1) := by decide +kernel
theorem dX2_settle_18 : decode cX2_settle 18 = .ok (.getfield 19, 3) := by decide +kernel
theorem dX2_settle_21 : decode cX2_settle 21 = .ok (.iload_n 3, 1) := by decide +kernel
theorem dX2_settle_22 : decode cX2_settle 22 = .ok (.iaload, 1) := by decide +kernel
theorem dX2_settle_23 : decode cX2_settle 23 = .ok (.iconst 2, 1) := by decide +kernel
theorem dX2_settle_24 : decode cX2_settle 24 = .ok (.if_icmp .ne 15, 3) := by decide +kernel
theorem dX2_settle_27 : decode cX2_settle 27 = .ok (.aload_n 1, 1) := by decide +kernel
theorem dX2_settle_28 : decode cX2_settle 28 = .ok (.iload_n 3, 1) := by decide +kernel
theorem dX2_settle_29 : decode cX2_settle 29 = .ok (.aload_n 0, 1) := by decide +kernel
theorem dX2_settle_30 : decode cX2_settle 30 = .ok (.iload_n 3, 1) := by decide +kernel
theorem dX2_settle_31 : decode cX2_settle 31 = .ok (.aload_n 1, 1) := by decide +kernel
theorem dX2_settle_32 : decode cX2_settle 32 = .ok (.invokestatic 22, 3) := by decide +kernel
theorem dX2_settle_35 : decode cX2_settle 35 = .ok (.iastore, 1) := by decide +kernel
theorem dX2_settle_36 : decode cX2_settle 36 = .ok (.goto 22, 3) := by decide +kernel
theorem dX2_settle_39 : decode cX2_settle 39 = .ok (.aload_n 0, 1) := by decide +kernel
theorem dX2_settle_40 : decode cX2_settle 40 = .ok (.getfield 19, 3) := by decide +kernel
theorem dX2_settle_43 : decode cX2_settle 43 = .ok (.iload_n 3, 1) := by decide +kernel
theorem dX2_settle_44 : decode cX2_settle 44 = .ok (.iaload, 1) := by decide +kernel
theorem dX2_settle_45 : decode cX2_settle 45 = .ok (.iconst 1, 1) := by decide +kernel
theorem dX2_settle_46 : decode cX2_settle 46 = .ok (.if_icmp .ne 12, 3) := by decide +kernel
theorem dX2_settle_49 : decode cX2_settle 49 = .ok (.aload_n 1, 1) := by decide +kernel
theorem dX2_settle_50 : decode cX2_settle 50 = .ok (.iload_n 3, 1) := by decide +kernel
theorem dX2_settle_51 : decode cX2_settle 51 = .ok (.aload_n 0, 1) := by decide +kernel
theorem dX2_settle_52 : decode cX2_settle 52 = .ok (.iload_n 3, 1) := by decide +kernel
theorem dX2_settle_53 : decode cX2_settle 53 = .ok (.aload_n 1, 1) := by decide +kernel
theorem dX2_settle_54 : decode cX2_settle 54 = .ok (.invokestatic 28, 3) := by decide +kernel
theorem dX2_settle_57 : decode cX2_settle 57 = .ok (.iastore, 1) := by decide +kernel
theorem dX2_settle_58 : decode cX2_settle 58 = .ok (.iinc 2 1, 3) := by decide +kernel
theorem dX2_settle_61 : decode cX2_settle 61 = .ok (.goto (-59), 3) := by decide +kernel
theorem dX2_settle_64 : decode cX2_settle 64 = .ok (.return_, 1) := by decide +kernel
set_option maxRecDepth 20000 in
theorem ggX2_gateValue_X2_muxValue : GoodIn wsX2_gateValue wsX2_muxValue := goodIn_r _ [5, 6, 7, 8, 9, 10, 11, 12, 13, 4, 14, 27, 28, 29, 30, 31, 32, 33, 34, 35, 36, 37, 38, 39] (by decide +kernel) (by decide +kernel)
set_option maxRecDepth 20000 in
theorem gX2_gateValue_X2_muxValue : GoodIn wsX2_gateValue (va_wsS RX2 34 yX2_muxValue wsX2_muxValue) := goodIn_app (goodIn_of _ (by decide +kernel)) ggX2_gateValue_X2_muxValue
set_option maxRecDepth 20000 in
theorem ggX2_gateValue_X0_size : GoodIn wsX2_gateValue wsX0_size := goodIn_r _ [18, 19, 20, 27, 28, 29, 30, 31, 32, 33, 34, 35, 36, 37, 38, 39] (by decide +kernel) (by decide +kernel)
set_option maxRecDepth 20000 in
theorem gX2_gateValue_X0_size : GoodIn wsX2_gateValue (wsV RX2 37 RX0 yX0_size wsX0_size) := goodIn_app (goodIn_of _ (by decide +kernel)) ggX2_gateValue_X0_size
set_option maxRecDepth 20000 in
theorem ggX2_gateValue_X0_part : GoodIn wsX2_gateValue wsX0_part := goodIn_r _ [10, 11, 27, 28, 29, 30, 31, 32, 33, 34, 35, 36, 37, 38, 39] (by decide +kernel) (by decide +kernel)
set_option maxRecDepth 20000 in
theorem gX2_gateValue_X0_part : GoodIn wsX2_gateValue (wsV RX2 41 RX0 yX0_part wsX0_part) := goodIn_app (goodIn_of _ (by decide +kernel)) ggX2_gateValue_X0_part
set_option maxRecDepth 20000 in
theorem ggX2_gateValue_X2_plainValue : GoodIn wsX2_gateValue wsX2_plainValue := goodIn_r _ [23] (by decide +kernel) (by decide +kernel)
set_option maxRecDepth 20000 in
theorem gX2_gateValue_X2_plainValue : GoodIn wsX2_gateValue (va_wsS RX2 45 yX2_plainValue wsX2_plainValue) := goodIn_app (goodIn_of _ (by decide +kernel)) ggX2_gateValue_X2_plainValue
set_option maxRecDepth 20000 in
theorem ggX2_gateValue_X2_isTurned : GoodIn wsX2_gateValue wsX2_isTurned := goodIn_r _ [26] (by decide +kernel) (by decide +kernel)
set_option maxRecDepth 20000 in
theorem gX2_gateValue_X2_isTurned : GoodIn wsX2_gateValue (va_wsS RX2 49 yX2_isTurned wsX2_isTurned) := goodIn_app (goodIn_of _ (by decide +kernel)) ggX2_gateValue_X2_isTurned
theorem dX2_gateValue_0 : decode cX2_gateValue 0 = .ok (.aload_n 0, 1) := by decide +kernel
theorem dX2_gateValue_1 : decode cX2_gateValue 1 = .ok (.getfield 31, 3) := by decide +kernel
theorem dX2_gateValue_4 : decode cX2_gateValue 4 = .ok (.iload_n 1, 1) := by decide +kernel
theorem dX2_gateValue_5 : decode cX2_gateValue 5 = .ok (.iaload, 1) := by decide +kernel
theorem dX2_gateValue_6 : decode cX2_gateValue 6 = .ok (.istore_n 3, 1) := by decide +kernel
theorem dX2_gateValue_7 : decode cX2_gateValue 7 = .ok (.iload_n 3, 1) := by decide +kernel
theorem dX2_gateValue_8 : decode cX2_gateValue 8 = .ok (.bipush 8, 2) := by decide +kernel
theorem dX2_gateValue_10 : decode cX2_gateValue 10 = .ok (.if_icmp .ne 10, 3) := by decide +kernel
theorem dX2_gateValue_13 : decode cX2_gateValue 13 = .ok (.aload_n 0, 1) := by decide +kernel
theorem dX2_gateValue_14 : decode cX2_gateValue 14 = .ok (.iload_n 1, 1) := by decide +kernel
theorem dX2_gateValue_15 : decode cX2_gateValue 15 = .ok (.aload_n 2, 1) := by decide +kernel
theorem dX2_gateValue_16 : decode cX2_gateValue 16 = .ok (.invokestatic 34, 3) := by decide +kernel
theorem dX2_gateValue_19 : decode cX2_gateValue 19 = .ok (.ireturn, 1) := by decide +kernel
theorem dX2_gateValue_20 : decode cX2_gateValue 20 = .ok (.iconst 0, 1) := by decide +kernel
theorem dX2_gateValue_21 : decode cX2_gateValue 21 = .ok (.istore 4, 2) := by decide +kernel
theorem dX2_gateValue_23 : decode cX2_gateValue 23 = .ok (.iconst 0, 1) := by decide +kernel
theorem dX2_gateValue_24 : decode cX2_gateValue 24 = .ok (.istore 5, 2) := by decide +kernel
theorem dX2_gateValue_26 : decode cX2_gateValue 26 = .ok (.aload_n 0, 1) := by decide +kernel
theorem dX2_gateValue_27 : decode cX2_gateValue 27 = .ok (.iload_n 1, 1) := by decide +kernel
theorem dX2_gateValue_28 : decode cX2_gateValue 28 = .ok (.invokevirtual 37, 3) := by decide +kernel
theorem dX2_gateValue_31 : decode cX2_gateValue 31 = .ok (.istore 6, 2) := by decide +kernel
theorem dX2_gateValue_33 : decode cX2_gateValue 33 = .ok (.iconst 0, 1) := by decide +kernel
theorem dX2_gateValue_34 : decode cX2_gateValue 34 = .ok (.istore 7, 2) := by decide +kernel
theorem dX2_gateValue_36 : decode cX2_gateValue 36 = .ok (.iload 7, 2) := by decide +kernel
theorem dX2_gateValue_38 : decode cX2_gateValue 38 = .ok (.iload 6, 2) := by decide +kernel
theorem dX2_gateValue_40 : decode cX2_gateValue 40 = .ok (.if_icmp .ge 51, 3) := by decide +kernel
theorem dX2_gateValue_43 : decode cX2_gateValue 43 = .ok (.aload_n 2, 1) := by decide +kernel
theorem dX2_gateValue_44 : decode cX2_gateValue 44 = .ok (.aload_n 0, 1) := by decide +kernel
theorem dX2_gateValue_45 : decode cX2_gateValue 45 = .ok (.iload_n 1, 1) := by decide +kernel
theorem dX2_gateValue_46 : decode cX2_gateValue 46 = .ok (.iload 7, 2) := by decide +kernel
theorem dX2_gateValue_48 : decode cX2_gateValue 48 = .ok (.invokevirtual 41, 3) := by decide +kernel
theorem dX2_gateValue_51 : decode cX2_gateValue 51 = .ok (.iaload, 1) := by decide +kernel
theorem dX2_gateValue_52 : decode cX2_gateValue 52 = .ok (.istore 8, 2) := by decide +kernel
theorem dX2_gateValue_54 : decode cX2_gateValue 54 = .ok (.iload 4, 2) := by decide +kernel
theorem dX2_gateValue_56 : decode cX2_gateValue 56 = .ok (.iload 8, 2) := by decide +kernel
theorem dX2_gateValue_58 : decode cX2_gateValue 58 = .ok (.ifCond .ne 7, 3) := by decide +kernel
theorem dX2_gateValue_61 : decode cX2_gateValue 61 = .ok (.iconst 1, 1) := by decide +kernel
theorem dX2_gateValue_62 : decode cX2_gateValue 62 = .ok (.goto 4, 3) := by decide +kernel
theorem dX2_gateValue_65 : decode cX2_gateValue 65 = .ok (.iconst 0, 1) := by decide +kernel
theorem dX2_gateValue_66 : decode cX2_gateValue 66 = .ok (.iadd, 1) := by decide +kernel
theorem dX2_gateValue_67 : decode cX2_gateValue 67 = .ok (.istore 4, 2) := by decide +kernel
theorem dX2_gateValue_69 : decode cX2_gateValue 69 = .ok (.iload 5, 2) := by decide +kernel
theorem dX2_gateValue_71 : decode cX2_gateValue 71 = .ok (.iload 8, 2) := by decide +kernel
theorem dX2_gateValue_73 : decode cX2_gateValue 73 = .ok (.iconst 1, 1) := by decide +kernel
theorem dX2_gateValue_74 : decode cX2_gateValue 74 = .ok (.if_icmp .ne 7, 3) := by decide +kernel
theorem dX2_gateValue_77 : decode cX2_gateValue 77 = .ok (.iconst 1, 1) := by decide +kernel
theorem dX2_gateValue_78 : decode cX2_gateValue 78 = .ok (.goto 4, 3) := by decide +kernel
theorem dX2_gateValue_81 : decode cX2_gateValue 81 = .ok (.iconst 0, 1) := by decide +kernel
theorem dX2_gateValue_82 : decode cX2_gateValue 82 = .ok (.iadd, 1) := by decide +kernel
theorem dX2_gateValue_83 : decode cX2_gateValue 83 = .ok (.istore 5, 2) := by decide +kernel
theorem dX2_gateValue_85 : decode cX2_gateValue 85 = .ok (.iinc 7 1, 3) := by decide +kernel
theorem dX2_gateValue_88 : decode cX2_gateValue 88 = .ok (.goto (-52), 3) := by decide +kernel
theorem dX2_gateValue_91 : decode cX2_gateValue 91 = .ok (.iload_n 3, 1) := by decide +kernel
theorem dX2_gateValue_92 : decode cX2_gateValue 92 = .ok (.bipush (-2), 2) := by decide +kernel
theorem dX2_gateValue_94 : decode cX2_gateValue 94 = .ok (.iand, 1) := by decide +kernel
theorem dX2_gateValue_95 : decode cX2_gateValue 95 = .ok (.iload 4, 2) := by decide +kernel
theorem dX2_gateValue_97 : decode cX2_gateValue 97 = .ok (.iload 5, 2) := by decide +kernel
theorem dX2_gateValue_99 : decode cX2_gateValue 99 = .ok (.iload 6, 2) := by decide +kernel
theorem dX2_gateValue_101 : decode cX2_gateValue 101 = .ok (.invokestatic 45, 3) := by decide +kernel
theorem dX2_gateValue_104 : decode cX2_gateValue 104 = .ok (.istore 7, 2) := by decide +kernel
theorem dX2_gateValue_106 : decode cX2_gateValue 106 = .ok (.iload_n 3, 1) := by decide +kernel
theorem dX2_gateValue_107 : decode cX2_gateValue 107 = .ok (.invokestatic 49, 3) := by decide +kernel
theorem dX2_gateValue_110 : decode cX2_gateValue 110 = .ok (.ifCond .eq 16, 3) := by decide +kernel
theorem dX2_gateValue_113 : decode cX2_gateValue 113 = .ok (.iload 7, 2) := by decide +kernel
theorem dX2_gateValue_115 : decode cX2_gateValue 115 = .ok (.iconst 2, 1) := by decide +kernel
theorem dX2_gateValue_116 : decode cX2_gateValue 116 = .ok (.if_icmp .ge 10, 3) := by decide +kernel
theorem dX2_gateValue_119 : decode cX2_gateValue 119 = .ok (.iconst 1, 1) := by decide +kernel
theorem dX2_gateValue_120 : decode cX2_gateValue 120 = .ok (.iload 7, 2) := by decide +kernel
theorem dX2_gateValue_122 : decode cX2_gateValue 122 = .ok (.isub, 1) := by decide +kernel
theorem dX2_gateValue_123 : decode cX2_gateValue 123 = .ok (.goto 5, 3) := by decide +kernel
theorem dX2_gateValue_126 : decode cX2_gateValue 126 = .ok (.iload 7, 2) := by decide +kernel
theorem dX2_gateValue_128 : decode cX2_gateValue 128 = .ok (.ireturn, 1) := by decide +kernel
theorem dX2_isTurned_0 : decode cX2_isTurned 0 = .ok (.iload_n 0, 1) := by decide +kernel
theorem dX2_isTurned_1 : decode cX2_isTurned 1 = .ok (.iconst 1, 1) := by decide +kernel
theorem dX2_isTurned_2 : decode cX2_isTurned 2 = .ok (.iand, 1) := by decide +kernel
theorem dX2_isTurned_3 : decode cX2_isTurned 3 = .ok (.iconst 1, 1) := by decide +kernel
theorem dX2_isTurned_4 : decode cX2_isTurned 4 = .ok (.if_icmp .ne 7, 3) := by decide +kernel
theorem dX2_isTurned_7 : decode cX2_isTurned 7 = .ok (.iconst 1, 1) := by decide +kernel
theorem dX2_isTurned_8 : decode cX2_isTurned 8 = .ok (.goto 4, 3) := by decide +kernel
theorem dX2_isTurned_11 : decode cX2_isTurned 11 = .ok (.iconst 0, 1) := by decide +kernel
theorem dX2_isTurned_12 : decode cX2_isTurned 12 = .ok (.ireturn, 1) := by decide +kernel
theorem dX2_plainValue_0 : decode cX2_plainValue 0 = .ok (.iload_n 1, 1) := by decide +kernel
theorem dX2_plainValue_1 : decode cX2_plainValue 1 = .ok (.iload_n 2, 1) := by decide +kernel
theorem dX2_plainValue_2 : decode cX2_plainValue 2 = .ok (.iadd, 1) := by decide +kernel
theorem dX2_plainValue_3 : decode cX2_plainValue 3 = .ok (.iload_n 3, 1) := by decide +kernel
theorem dX2_plainValue_4 : decode cX2_plainValue 4 = .ok (.if_icmp .ne 7, 3) := by decide +kernel
theorem dX2_plainValue_7 : decode cX2_plainValue 7 = .ok (.iconst 1, 1) := by decide +kernel
theorem dX2_plainValue_8 : decode cX2_plainValue 8 = .ok (.goto 4, 3) := by decide +kernel
theorem dX2_plainValue_11 : decode cX2_plainValue 11 = .ok (.iconst 0, 1) := by decide +kernel
theorem dX2_plainValue_12 : decode cX2_plainValue 12 = .ok (.istore 4, 2) := by decide +kernel
theorem dX2_plainValue_14 : decode cX2_plainValue 14 = .ok (.iload_n 0, 1) := by decide +kernel
theorem dX2_plainValue_15 : decode cX2_plainValue 15 = .ok (.lookupswitch 57 #[(2, 25), (4, 44)], 25) := by decide +kernel
theorem dX2_plainValue_40 : decode cX2_plainValue 40 = .ok (.iload_n 2, 1) := by decide +kernel
theorem dX2_plainValue_41 : decode cX2_plainValue 41 = .ok (.ifCond .le 7, 3) := by decide +kernel
theorem dX2_plainValue_44 : decode cX2_plainValue 44 = .ok (.iconst 1, 1) := by decide +kernel
theorem dX2_plainValue_45 : decode cX2_plainValue 45 = .ok (.goto 13, 3) := by decide +kernel
theorem dX2_plainValue_48 : decode cX2_plainValue 48 = .ok (.iload 4, 2) := by decide +kernel
theorem dX2_plainValue_50 : decode cX2_plainValue 50 = .ok (.ifCond .eq 7, 3) := by decide +kernel
theorem dX2_plainValue_53 : decode cX2_plainValue 53 = .ok (.iconst 0, 1) := by decide +kernel
theorem dX2_plainValue_54 : decode cX2_plainValue 54 = .ok (.goto 4, 3) := by decide +kernel
theorem dX2_plainValue_57 : decode cX2_plainValue 57 = .ok (.iconst 2, 1) := by decide +kernel
theorem dX2_plainValue_58 : decode cX2_plainValue 58 = .ok (.ireturn, 1) := by decide +kernel
theorem dX2_plainValue_59 : decode cX2_plainValue 59 = .ok (.iload 4, 2) := by decide +kernel
theorem dX2_plainValue_61 : decode cX2_plainValue 61 = .ok (.ifCond .eq 9, 3) := by decide +kernel
theorem dX2_plainValue_64 : decode cX2_plainValue 64 = .ok (.iload_n 2, 1) := by decide +kernel
theorem dX2_plainValue_65 : decode cX2_plainValue 65 = .ok (.iconst 1, 1) := by decide +kernel
theorem dX2_plainValue_66 : decode cX2_plainValue 66 = .ok (.iand, 1) := by decide +kernel
theorem dX2_plainValue_67 : decode cX2_plainValue 67 = .ok (.goto 4, 3) := by decide +kernel
theorem dX2_plainValue_70 : decode cX2_plainValue 70 = .ok (.iconst 2, 1) := by decide +kernel
theorem dX2_plainValue_71 : decode cX2_plainValue 71 = .ok (.ireturn, 1) := by decide +kernel
theorem dX2_plainValue_72 : decode cX2_plainValue 72 = .ok (.iload_n 1, 1) := by decide +kernel
theorem dX2_plainValue_73 : decode cX2_plainValue 73 = .ok (.ifCond .le 7, 3) := by decide +kernel
theorem dX2_plainValue_76 : decode cX2_plainValue 76 = .ok (.iconst 0, 1) := by decide +kernel
theorem dX2_plainValue_77 : decode cX2_plainValue 77 = .ok (.goto 13, 3) := by decide +kernel
theorem dX2_plainValue_80 : decode cX2_plainValue 80 = .ok (.iload 4, 2) := by decide +kernel
theorem dX2_plainValue_82 : decode cX2_plainValue 82 = .ok (.ifCond .eq 7, 3) := by decide +kernel
theorem dX2_plainValue_85 : decode cX2_plainValue 85 = .ok (.iconst 1, 1) := by decide +kernel
theorem dX2_plainValue_86 : decode cX2_plainValue 86 = .ok (.goto 4, 3) := by decide +kernel
theorem dX2_plainValue_89 : decode cX2_plainValue 89 = .ok (.iconst 2, 1) := by decide +kernel
theorem dX2_plainValue_90 : decode cX2_plainValue 90 = .ok (.ireturn, 1) := by decide +kernel
set_option maxRecDepth 20000 in
theorem ggX2_muxValue_X0_part : GoodIn wsX2_muxValue wsX0_part := goodIn_r _ [5, 6, 11, 12, 13, 14, 15, 16, 17, 18, 19, 20, 21, 22, 23] (by decide +kernel) (by decide +kernel)
set_option maxRecDepth 20000 in
theorem gX2_muxValue_X0_part : GoodIn wsX2_muxValue (wsV RX2 41 RX0 yX0_part wsX0_part) := goodIn_app (goodIn_of _ (by decide +kernel)) ggX2_muxValue_X0_part
set_option maxRecDepth 20000 in
theorem ggX2_muxValue_X2_takenIn : GoodIn wsX2_muxValue wsX2_takenIn := goodIn_r _ [10] (by decide +kernel) (by decide +kernel)
set_option maxRecDepth 20000 in
theorem gX2_muxValue_X2_takenIn : GoodIn wsX2_muxValue (va_wsS RX2 53 yX2_takenIn wsX2_takenIn) := goodIn_app (goodIn_of _ (by decide +kernel)) ggX2_muxValue_X2_takenIn
theorem dX2_muxValue_0 : decode cX2_muxValue 0 = .ok (.aload_n 2, 1) := by decide +kernel
theorem dX2_muxValue_1 : decode cX2_muxValue 1 = .ok (.aload_n 0, 1) := by decide +kernel
theorem dX2_muxValue_2 : decode cX2_muxValue 2 = .ok (.iload_n 1, 1) := by decide +kernel
theorem dX2_muxValue_3 : decode cX2_muxValue 3 = .ok (.iconst 0, 1) := by decide +kernel
theorem dX2_muxValue_4 : decode cX2_muxValue 4 = .ok (.invokevirtual 41, 3) := by decide +kernel
theorem dX2_muxValue_7 : decode cX2_muxValue 7 = .ok (.iaload, 1) := by decide +kernel
theorem dX2_muxValue_8 : decode cX2_muxValue 8 = .ok (.istore_n 3, 1) := by decide +kernel
theorem dX2_muxValue_9 : decode cX2_muxValue 9 = .ok (.aload_n 2, 1) := by decide +kernel
theorem dX2_muxValue_10 : decode cX2_muxValue 10 = .ok (.aload_n 0, 1) := by decide +kernel
theorem dX2_muxValue_11 : decode cX2_muxValue 11 = .ok (.iload_n 1, 1) := by decide +kernel
theorem dX2_muxValue_12 : decode cX2_muxValue 12 = .ok (.iconst 1, 1) := by decide +kernel
theorem dX2_muxValue_13 : decode cX2_muxValue 13 = .ok (.invokevirtual 41, 3) := by decide +kernel
theorem dX2_muxValue_16 : decode cX2_muxValue 16 = .ok (.iaload, 1) := by decide +kernel
theorem dX2_muxValue_17 : decode cX2_muxValue 17 = .ok (.invokestatic 53, 3) := by decide +kernel
theorem dX2_muxValue_20 : decode cX2_muxValue 20 = .ok (.istore 4, 2) := by decide +kernel
theorem dX2_muxValue_22 : decode cX2_muxValue 22 = .ok (.aload_n 2, 1) := by decide +kernel
theorem dX2_muxValue_23 : decode cX2_muxValue 23 = .ok (.aload_n 0, 1) := by decide +kernel
theorem dX2_muxValue_24 : decode cX2_muxValue 24 = .ok (.iload_n 1, 1) := by decide +kernel
theorem dX2_muxValue_25 : decode cX2_muxValue 25 = .ok (.iconst 2, 1) := by decide +kernel
theorem dX2_muxValue_26 : decode cX2_muxValue 26 = .ok (.invokevirtual 41, 3) := by decide +kernel
theorem dX2_muxValue_29 : decode cX2_muxValue 29 = .ok (.iaload, 1) := by decide +kernel
theorem dX2_muxValue_30 : decode cX2_muxValue 30 = .ok (.invokestatic 53, 3) := by decide +kernel
theorem dX2_muxValue_33 : decode cX2_muxValue 33 = .ok (.istore 5, 2) := by decide +kernel
theorem dX2_muxValue_35 : decode cX2_muxValue 35 = .ok (.iload_n 3, 1) := by decide +kernel
theorem dX2_muxValue_36 : decode cX2_muxValue 36 = .ok (.ifCond .ne 6, 3) := by decide +kernel
theorem dX2_muxValue_39 : decode cX2_muxValue 39 = .ok (.iload 4, 2) := by decide +kernel
theorem dX2_muxValue_41 : decode cX2_muxValue 41 = .ok (.ireturn, 1) := by decide +kernel
theorem dX2_muxValue_42 : decode cX2_muxValue 42 = .ok (.iload_n 3, 1) := by decide +kernel
theorem dX2_muxValue_43 : decode cX2_muxValue 43 = .ok (.iconst 1, 1) := by decide +kernel
theorem dX2_muxValue_44 : decode cX2_muxValue 44 = .ok (.if_icmp .ne 6, 3) := by decide +kernel
theorem dX2_muxValue_47 : decode cX2_muxValue 47 = .ok (.iload 5, 2) := by decide +kernel
theorem dX2_muxValue_49 : decode cX2_muxValue 49 = .ok (.ireturn, 1) := by decide +kernel
theorem dX2_muxValue_50 : decode cX2_muxValue 50 = .ok (.iload 4, 2) := by decide +kernel
theorem dX2_muxValue_52 : decode cX2_muxValue 52 = .ok (.iload 5, 2) := by decide +kernel
theorem dX2_muxValue_54 : decode cX2_muxValue 54 = .ok (.if_icmp .ne 8, 3) := by decide +kernel
theorem dX2_muxValue_57 : decode cX2_muxValue 57 = .ok (.iload 4, 2) := by decide +kernel
theorem dX2_muxValue_59 : decode cX2_muxValue 59 = .ok (.goto 4, 3) := by decide +kernel
theorem dX2_muxValue_62 : decode cX2_muxValue 62 = .ok (.iconst 2, 1) := by decide +kernel
theorem dX2_muxValue_63 : decode cX2_muxValue 63 = .ok (.ireturn, 1) := by decide +kernel
set_option maxRecDepth 20000 in
theorem ggX2_busValue_X0_size : GoodIn wsX2_busValue wsX0_size := goodIn_r _ [5, 6, 7, 25, 26, 27, 28, 29, 30, 31, 32, 33, 34, 35, 36, 37] (by decide +kernel) (by decide +kernel)
set_option maxRecDepth 20000 in
theorem gX2_busValue_X0_size : GoodIn wsX2_busValue (wsV RX2 37 RX0 yX0_size wsX0_size) := goodIn_app (goodIn_of _ (by decide +kernel)) ggX2_busValue_X0_size
set_option maxRecDepth 20000 in
theorem ggX2_busValue_X2_driverValue : GoodIn wsX2_busValue wsX2_driverValue := goodIn_r _ [11, 12, 13, 14, 4, 15, 16, 17, 18, 19, 20, 21, 22, 23, 10, 24, 25, 26, 27, 28, 29, 30, 31, 32, 33, 34, 35, 36, 37] (by decide +kernel) (by decide +kernel)
set_option maxRecDepth 20000 in
theorem gX2_busValue_X2_driverValue : GoodIn wsX2_busValue (va_wsS RX2 56 yX2_driverValue wsX2_driverValue) := goodIn_app (goodIn_of _ (by decide +kernel)) ggX2_busValue_X2_driverValue
theorem dX2_busValue_0 : decode cX2_busValue 0 = .ok (.iconst 3, 1) := by decide +kernel
theorem dX2_busValue_1 : decode cX2_busValue 1 = .ok (.istore_n 3, 1) := by decide +kernel
theorem dX2_busValue_2 : decode cX2_busValue 2 = .ok (.aload_n 0, 1) := by decide +kernel
theorem dX2_busValue_3 : decode cX2_busValue 3 = .ok (.iload_n 1, 1) := by decide +kernel
theorem dX2_busValue_4 : decode cX2_busValue 4 = .ok (.invokevirtual 37, 3) := by decide +kernel
theorem dX2_busValue_7 : decode cX2_busValue 7 = .ok (.istore 4, 2) := by decide +kernel
theorem dX2_busValue_9 : decode cX2_busValue 9 = .ok (.iconst 0, 1) := by decide +kernel
theorem dX2_busValue_10 : decode cX2_busValue 10 = .ok (.istore 5, 2) := by decide +kernel
theorem dX2_busValue_12 : decode cX2_busValue 12 = .ok (.iload 5, 2) := by decide +kernel
theorem dX2_busValue_14 : decode cX2_busValue 14 = .ok (.iload 4, 2) := by decide +kernel
theorem dX2_busValue_16 : decode cX2_busValue 16 = .ok (.if_icmp .ge 44, 3) := by decide +kernel
theorem dX2_busValue_19 : decode cX2_busValue 19 = .ok (.aload_n 0, 1) := by decide +kernel
theorem dX2_busValue_20 : decode cX2_busValue 20 = .ok (.iload_n 1, 1) := by decide +kernel
theorem dX2_busValue_21 : decode cX2_busValue 21 = .ok (.iload 5, 2) := by decide +kernel
theorem dX2_busValue_23 : decode cX2_busValue 23 = .ok (.aload_n 2, 1) := by decide +kernel
theorem dX2_busValue_24 : decode cX2_busValue 24 = .ok (.invokestatic 56, 3) := by decide +kernel
theorem dX2_busValue_27 : decode cX2_busValue 27 = .ok (.istore 6, 2) := by decide +kernel
theorem dX2_busValue_29 : decode cX2_busValue 29 = .ok (.iload_n 3, 1) := by decide +kernel
theorem dX2_busValue_30 : decode cX2_busValue 30 = .ok (.iconst 3, 1) := by decide +kernel
theorem dX2_busValue_31 : decode cX2_busValue 31 = .ok (.if_icmp .ne 9, 3) := by decide +kernel
theorem dX2_busValue_34 : decode cX2_busValue 34 = .ok (.iload 6, 2) := by decide +kernel
theorem dX2_busValue_36 : decode cX2_busValue 36 = .ok (.istore_n 3, 1) := by decide +kernel
theorem dX2_busValue_37 : decode cX2_busValue 37 = .ok (.goto 17, 3) := by decide +kernel
theorem dX2_busValue_40 : decode cX2_busValue 40 = .ok (.iload 6, 2) := by decide +kernel
theorem dX2_busValue_42 : decode cX2_busValue 42 = .ok (.iconst 3, 1) := by decide +kernel
theorem dX2_busValue_43 : decode cX2_busValue 43 = .ok (.if_icmp .eq 11, 3) := by decide +kernel
theorem dX2_busValue_46 : decode cX2_busValue 46 = .ok (.iload 6, 2) := by decide +kernel
theorem dX2_busValue_48 : decode cX2_busValue 48 = .ok (.iload_n 3, 1) := by decide +kernel
theorem dX2_busValue_49 : decode cX2_busValue 49 = .ok (.if_icmp .eq 5, 3) := by decide +kernel
theorem dX2_busValue_52 : decode cX2_busValue 52 = .ok (.iconst 2, 1) := by decide +kernel
theorem dX2_busValue_53 : decode cX2_busValue 53 = .ok (.istore_n 3, 1) := by decide +kernel
theorem dX2_busValue_54 : decode cX2_busValue 54 = .ok (.iinc 5 1, 3) := by decide +kernel
theorem dX2_busValue_57 : decode cX2_busValue 57 = .ok (.goto (-45), 3) := by decide +kernel
theorem dX2_busValue_60 : decode cX2_busValue 60 = .ok (.iload_n 3, 1) := by decide +kernel
theorem dX2_busValue_61 : decode cX2_busValue 61 = .ok (.ireturn, 1) := by decide +kernel
set_option maxRecDepth 20000 in
theorem ggX2_driverValue_X0_part : GoodIn wsX2_driverValue wsX0_part := goodIn_r _ [5, 6, 16, 17, 18, 19, 20, 21, 22, 23, 24, 25, 26, 27, 28] (by decide +kernel) (by decide +kernel)
set_option maxRecDepth 20000 in
theorem gX2_driverValue_X0_part : GoodIn wsX2_driverValue (wsV RX2 41 RX0 yX0_part wsX0_part) := goodIn_app (goodIn_of _ (by decide +kernel)) ggX2_driverValue_X0_part
set_option maxRecDepth 20000 in
theorem ggX2_driverValue_X0_isLow : GoodIn wsX2_driverValue wsX0_isLow := goodIn_r _ [10, 11, 16, 17, 18, 19, 20, 21, 22, 23, 24, 25, 26, 27, 28] (by decide +kernel) (by decide +kernel)
set_option maxRecDepth 20000 in
theorem gX2_driverValue_X0_isLow : GoodIn wsX2_driverValue (wsV RX2 60 RX0 yX0_isLow wsX0_isLow) := goodIn_app (goodIn_of _ (by decide +kernel)) ggX2_driverValue_X0_isLow
set_option maxRecDepth 20000 in
theorem ggX2_driverValue_X2_takenIn : GoodIn wsX2_driverValue wsX2_takenIn := goodIn_r _ [15] (by decide +kernel) (by decide +kernel)
set_option maxRecDepth 20000 in
theorem gX2_driverValue_X2_takenIn : GoodIn wsX2_driverValue (va_wsS RX2 53 yX2_takenIn wsX2_takenIn) := goodIn_app (goodIn_of _ (by decide +kernel)) ggX2_driverValue_X2_takenIn
theorem dX2_driverValue_0 : decode cX2_driverValue 0 = .ok (.aload_n 3, 1) := by decide +kernel
theorem dX2_driverValue_1 : decode cX2_driverValue 1 = .ok (.aload_n 0, 1) := by decide +kernel
theorem dX2_driverValue_2 : decode cX2_driverValue 2 = .ok (.iload_n 1, 1) := by decide +kernel
theorem dX2_driverValue_3 : decode cX2_driverValue 3 = .ok (.iconst 2, 1) := by decide +kernel
theorem dX2_driverValue_4 : decode cX2_driverValue 4 = .ok (.iload_n 2, 1) := by decide +kernel
theorem dX2_driverValue_5 : decode cX2_driverValue 5 = .ok (.imul, 1) := by decide +kernel
theorem dX2_driverValue_6 : decode cX2_driverValue 6 = .ok (.invokevirtual 41, 3) := by decide +kernel
theorem dX2_driverValue_9 : decode cX2_driverValue 9 = .ok (.iaload, 1) := by decide +kernel
theorem dX2_driverValue_10 : decode cX2_driverValue 10 = .ok (.istore 4, 2) := by decide +kernel
theorem dX2_driverValue_12 : decode cX2_driverValue 12 = .ok (.aload_n 3, 1) := by decide +kernel
theorem dX2_driverValue_13 : decode cX2_driverValue 13 = .ok (.aload_n 0, 1) := by decide +kernel
theorem dX2_driverValue_14 : decode cX2_driverValue 14 = .ok (.iload_n 1, 1) := by decide +kernel
theorem dX2_driverValue_15 : decode cX2_driverValue 15 = .ok (.iconst 2, 1) := by decide +kernel
theorem dX2_driverValue_16 : decode cX2_driverValue 16 = .ok (.iload_n 2, 1) := by decide +kernel
theorem dX2_driverValue_17 : decode cX2_driverValue 17 = .ok (.imul, 1) := by decide +kernel
theorem dX2_driverValue_18 : decode cX2_driverValue 18 = .ok (.iconst 1, 1) := by decide +kernel
theorem dX2_driverValue_19 : decode cX2_driverValue 19 = .ok (.iadd, 1) := by decide +kernel
theorem dX2_driverValue_20 : decode cX2_driverValue 20 = .ok (.invokevirtual 41, 3) := by decide +kernel
theorem dX2_driverValue_23 : decode cX2_driverValue 23 = .ok (.iaload, 1) := by decide +kernel
theorem dX2_driverValue_24 : decode cX2_driverValue 24 = .ok (.istore 5, 2) := by decide +kernel
theorem dX2_driverValue_26 : decode cX2_driverValue 26 = .ok (.iload 5, 2) := by decide +kernel
theorem dX2_driverValue_28 : decode cX2_driverValue 28 = .ok (.iconst 2, 1) := by decide +kernel
theorem dX2_driverValue_29 : decode cX2_driverValue 29 = .ok (.if_icmp .lt 5, 3) := by decide +kernel
theorem dX2_driverValue_32 : decode cX2_driverValue 32 = .ok (.iconst 2, 1) := by decide +kernel
theorem dX2_driverValue_33 : decode cX2_driverValue 33 = .ok (.ireturn, 1) := by decide +kernel
theorem dX2_driverValue_34 : decode cX2_driverValue 34 = .ok (.aload_n 0, 1) := by decide +kernel
theorem dX2_driverValue_35 : decode cX2_driverValue 35 = .ok (.iload_n 1, 1) := by decide +kernel
theorem dX2_driverValue_36 : decode cX2_driverValue 36 = .ok (.iload_n 2, 1) := by decide +kernel
theorem dX2_driverValue_37 : decode cX2_driverValue 37 = .ok (.invokevirtual 60, 3) := by decide +kernel
theorem dX2_driverValue_40 : decode cX2_driverValue 40 = .ok (.ifCond .eq 7, 3) := by decide +kernel
theorem dX2_driverValue_43 : decode cX2_driverValue 43 = .ok (.iconst 0, 1) := by decide +kernel
theorem dX2_driverValue_44 : decode cX2_driverValue 44 = .ok (.goto 4, 3) := by decide +kernel
theorem dX2_driverValue_47 : decode cX2_driverValue 47 = .ok (.iconst 1, 1) := by decide +kernel
theorem dX2_driverValue_48 : decode cX2_driverValue 48 = .ok (.istore 6, 2) := by decide +kernel
theorem dX2_driverValue_50 : decode cX2_driverValue 50 = .ok (.iload 5, 2) := by decide +kernel
theorem dX2_driverValue_52 : decode cX2_driverValue 52 = .ok (.iload 6, 2) := by decide +kernel
theorem dX2_driverValue_54 : decode cX2_driverValue 54 = .ok (.if_icmp .ne 11, 3) := by decide +kernel
theorem dX2_driverValue_57 : decode cX2_driverValue 57 = .ok (.iload 4, 2) := by decide +kernel
theorem dX2_driverValue_59 : decode cX2_driverValue 59 = .ok (.invokestatic 53, 3) := by decide +kernel
theorem dX2_driverValue_62 : decode cX2_driverValue 62 = .ok (.goto 4, 3) := by decide +kernel
theorem dX2_driverValue_65 : decode cX2_driverValue 65 = .ok (.iconst 3, 1) := by decide +kernel
theorem dX2_driverValue_66 : decode cX2_driverValue 66 = .ok (.ireturn, 1) := by decide +kernel
set_option maxRecDepth 20000 in
theorem ggX2_afterTick_X0_part : GoodIn wsX2_afterTick wsX0_part := goodIn_r _ [5, 6, 17, 18, 19, 20, 21, 22, 23, 24, 25, 26, 27, 28, 29] (by decide +kernel) (by decide +kernel)
set_option maxRecDepth 20000 in
theorem gX2_afterTick_X0_part : GoodIn wsX2_afterTick (wsV RX2 41 RX0 yX0_part wsX0_part) := goodIn_app (goodIn_of _ (by decide +kernel)) ggX2_afterTick_X0_part
set_option maxRecDepth 20000 in
theorem ggX2_afterTick_X2_takenIn : GoodIn wsX2_afterTick wsX2_takenIn := goodIn_r _ [10] (by decide +kernel) (by decide +kernel)
set_option maxRecDepth 20000 in
theorem gX2_afterTick_X2_takenIn : GoodIn wsX2_afterTick (va_wsS RX2 53 yX2_takenIn wsX2_takenIn) := goodIn_app (goodIn_of _ (by decide +kernel)) ggX2_afterTick_X2_takenIn
set_option maxRecDepth 20000 in
theorem ggX2_afterTick_X0_size : GoodIn wsX2_afterTick wsX0_size := goodIn_r _ [14, 15, 16, 17, 18, 19, 20, 21, 22, 23, 24, 25, 26, 27, 28, 29] (by decide +kernel) (by decide +kernel)
set_option maxRecDepth 20000 in
theorem gX2_afterTick_X0_size : GoodIn wsX2_afterTick (wsV RX2 37 RX0 yX0_size wsX0_size) := goodIn_app (goodIn_of _ (by decide +kernel)) ggX2_afterTick_X0_size
theorem dX2_afterTick_0 : decode cX2_afterTick 0 = .ok (.aload_n 2, 1) := by decide +kernel
theorem dX2_afterTick_1 : decode cX2_afterTick 1 = .ok (.iload_n 1, 1) := by decide +kernel
theorem dX2_afterTick_2 : decode cX2_afterTick 2 = .ok (.iaload, 1) := by decide +kernel
theorem dX2_afterTick_3 : decode cX2_afterTick 3 = .ok (.istore_n 3, 1) := by decide +kernel
theorem dX2_afterTick_4 : decode cX2_afterTick 4 = .ok (.aload_n 2, 1) := by decide +kernel
theorem dX2_afterTick_5 : decode cX2_afterTick 5 = .ok (.aload_n 0, 1) := by decide +kernel
theorem dX2_afterTick_6 : decode cX2_afterTick 6 = .ok (.iload_n 1, 1) := by decide +kernel
theorem dX2_afterTick_7 : decode cX2_afterTick 7 = .ok (.iconst 0, 1) := by decide +kernel
theorem dX2_afterTick_8 : decode cX2_afterTick 8 = .ok (.invokevirtual 41, 3) := by decide +kernel
theorem dX2_afterTick_11 : decode cX2_afterTick 11 = .ok (.iaload, 1) := by decide +kernel
theorem dX2_afterTick_12 : decode cX2_afterTick 12 = .ok (.invokestatic 53, 3) := by decide +kernel
theorem dX2_afterTick_15 : decode cX2_afterTick 15 = .ok (.istore 4, 2) := by decide +kernel
theorem dX2_afterTick_17 : decode cX2_afterTick 17 = .ok (.aload_n 0, 1) := by decide +kernel
theorem dX2_afterTick_18 : decode cX2_afterTick 18 = .ok (.iload_n 1, 1) := by decide +kernel
theorem dX2_afterTick_19 : decode cX2_afterTick 19 = .ok (.invokevirtual 37, 3) := by decide +kernel
theorem dX2_afterTick_22 : decode cX2_afterTick 22 = .ok (.iconst 1, 1) := by decide +kernel
theorem dX2_afterTick_23 : decode cX2_afterTick 23 = .ok (.if_icmp .le 14, 3) := by decide +kernel
theorem dX2_afterTick_26 : decode cX2_afterTick 26 = .ok (.aload_n 2, 1) := by decide +kernel
theorem dX2_afterTick_27 : decode cX2_afterTick 27 = .ok (.aload_n 0, 1) := by decide +kernel
theorem dX2_afterTick_28 : decode cX2_afterTick 28 = .ok (.iload_n 1, 1) := by decide +kernel
theorem dX2_afterTick_29 : decode cX2_afterTick 29 = .ok (.iconst 1, 1) := by decide +kernel
theorem dX2_afterTick_30 : decode cX2_afterTick 30 = .ok (.invokevirtual 41, 3) := by decide +kernel
theorem dX2_afterTick_33 : decode cX2_afterTick 33 = .ok (.iaload, 1) := by decide +kernel
theorem dX2_afterTick_34 : decode cX2_afterTick 34 = .ok (.goto 4, 3) := by decide +kernel
theorem dX2_afterTick_37 : decode cX2_afterTick 37 = .ok (.iconst 1, 1) := by decide +kernel
theorem dX2_afterTick_38 : decode cX2_afterTick 38 = .ok (.istore 5, 2) := by decide +kernel
theorem dX2_afterTick_40 : decode cX2_afterTick 40 = .ok (.iload 5, 2) := by decide +kernel
theorem dX2_afterTick_42 : decode cX2_afterTick 42 = .ok (.iconst 1, 1) := by decide +kernel
theorem dX2_afterTick_43 : decode cX2_afterTick 43 = .ok (.if_icmp .ne 6, 3) := by decide +kernel
theorem dX2_afterTick_46 : decode cX2_afterTick 46 = .ok (.iload 4, 2) := by decide +kernel
theorem dX2_afterTick_48 : decode cX2_afterTick 48 = .ok (.ireturn, 1) := by decide +kernel
theorem dX2_afterTick_49 : decode cX2_afterTick 49 = .ok (.iload 5, 2) := by decide +kernel
theorem dX2_afterTick_51 : decode cX2_afterTick 51 = .ok (.ifCond .ne 5, 3) := by decide +kernel
theorem dX2_afterTick_54 : decode cX2_afterTick 54 = .ok (.iload_n 3, 1) := by decide +kernel
theorem dX2_afterTick_55 : decode cX2_afterTick 55 = .ok (.ireturn, 1) := by decide +kernel
theorem dX2_afterTick_56 : decode cX2_afterTick 56 = .ok (.iload 4, 2) := by decide +kernel
theorem dX2_afterTick_58 : decode cX2_afterTick 58 = .ok (.iload_n 3, 1) := by decide +kernel
theorem dX2_afterTick_59 : decode cX2_afterTick 59 = .ok (.if_icmp .ne 7, 3) := by decide +kernel
theorem dX2_afterTick_62 : decode cX2_afterTick 62 = .ok (.iload_n 3, 1) := by decide +kernel
theorem dX2_afterTick_63 : decode cX2_afterTick 63 = .ok (.goto 4, 3) := by decide +kernel
theorem dX2_afterTick_66 : decode cX2_afterTick 66 = .ok (.iconst 2, 1) := by decide +kernel
theorem dX2_afterTick_67 : decode cX2_afterTick 67 = .ok (.ireturn, 1) := by decide +kernel
theorem dX2_takenIn_0 : decode cX2_takenIn 0 = .ok (.iload_n 0, 1) := by decide +kernel
theorem dX2_takenIn_1 : decode cX2_takenIn 1 = .ok (.iconst 3, 1) := by decide +kernel
theorem dX2_takenIn_2 : decode cX2_takenIn 2 = .ok (.if_icmp .ne 7, 3) := by decide +kernel
theorem dX2_takenIn_5 : decode cX2_takenIn 5 = .ok (.iconst 2, 1) := by decide +kernel
theorem dX2_takenIn_6 : decode cX2_takenIn 6 = .ok (.goto 4, 3) := by decide +kernel
theorem dX2_takenIn_9 : decode cX2_takenIn 9 = .ok (.iload_n 0, 1) := by decide +kernel
theorem dX2_takenIn_10 : decode cX2_takenIn 10 = .ok (.ireturn, 1) := by decide +kernel
set_option maxRecDepth 20000 in
theorem ggX3_init_X1_init : GoodIn wsX3_init wsX1_init := goodIn_r _ [16, 17, 2, 3] (by decide +kernel) (by decide +kernel)
set_option maxRecDepth 20000 in
theorem gX3_init_X1_init_n17 : GoodIn wsX3_init (wsX1_init) := ggX3_init_X1_init
theorem dX3_init_0 : decode cX3_init 0 = .ok (.aload_n 0, 1) := by decide +kernel
theorem dX3_init_1 : decode cX3_init 1 = .ok (.invokespecial 3, 3) := by decide +kernel
theorem dX3_init_4 : decode cX3_init 4 = .ok (.aload_n 0, 1) := by decide +kernel
theorem dX3_init_5 : decode cX3_init 5 = .ok (.iconst (-1), 1) := by decide +kernel
theorem dX3_init_6 : decode cX3_init 6 = .ok (.putfield 9, 3) := by decide +kernel
theorem dX3_init_9 : decode cX3_init 9 = .ok (.aload_n 0, 1) := by decide +kernel
theorem dX3_init_10 : decode cX3_init 10 = .ok (.new 15, 3) := by decide +kernel
theorem dX3_init_13 : decode cX3_init 13 = .ok (.dup, 1) := by decide +kernel
theorem dX3_init_14 : decode cX3_init 14 = .ok (.invokespecial 17, 3) := by decide +kernel
theorem dX3_init_17 : decode cX3_init 17 = .ok (.putfield 18, 3) := by decide +kernel
theorem dX3_init_20 : decode cX3_init 20 = .ok (.aload_n 0, 1) := by decide +kernel
theorem dX3_init_21 : decode cX3_init 21 = .ok (.sipush 667, 3) := by decide +kernel
theorem dX3_init_24 : decode cX3_init 24 = .ok (.newarray .long, 2) := by decide +kernel
theorem dX3_init_26 : decode cX3_init 26 = .ok (.putfield 22, 3) := by decide +kernel
theorem dX3_init_29 : decode cX3_init 29 = .ok (.aload_n 0, 1) := by decide +kernel
theorem dX3_init_30 : decode cX3_init 30 = .ok (.sipush 667, 3) := by decide +kernel
theorem dX3_init_33 : decode cX3_init 33 = .ok (.newarray .int, 2) := by decide +kernel
theorem dX3_init_35 : decode cX3_init 35 = .ok (.putfield 26, 3) := by decide +kernel
theorem dX3_init_38 : decode cX3_init 38 = .ok (.aload_n 0, 1) := by decide +kernel
theorem dX3_init_39 : decode cX3_init 39 = .ok (.sipush 667, 3) := by decide +kernel
theorem dX3_init_42 : decode cX3_init 42 = .ok (.newarray .int, 2) := by decide +kernel
theorem dX3_init_44 : decode cX3_init 44 = .ok (.putfield 30, 3) := by decide +kernel
theorem dX3_init_47 : decode cX3_init 47 = .ok (.aload_n 0, 1) := by decide +kernel
theorem dX3_init_48 : decode cX3_init 48 = .ok (.bipush 60, 2) := by decide +kernel
theorem dX3_init_50 : decode cX3_init 50 = .ok (.newarray .long, 2) := by decide +kernel
theorem dX3_init_52 : decode cX3_init 52 = .ok (.putfield 33, 3) := by decide +kernel
theorem dX3_init_55 : decode cX3_init 55 = .ok (.return_, 1) := by decide +kernel
set_option maxRecDepth 20000 in
theorem ggX3_readInto_X0_clear : GoodIn wsX3_readInto wsX0_clear := goodIn_r _ [10, 11, 12, 262, 263, 264, 265, 266, 267, 268, 269, 270, 271, 272, 273, 274] (by decide +kernel) (by decide +kernel)
set_option maxRecDepth 20000 in
theorem gX3_readInto_X0_clear : GoodIn wsX3_readInto (wsV RX3 40 RX0 yX0_clear wsX0_clear) := goodIn_app (goodIn_of _ (by decide +kernel)) ggX3_readInto_X0_clear
set_option maxRecDepth 20000 in
theorem ggX3_readInto_X1_begin : GoodIn wsX3_readInto wsX1_begin := goodIn_r _ [17, 18, 19, 20, 21, 22, 23, 24, 275, 276, 277, 278, 279, 280, 281] (by decide +kernel) (by decide +kernel)
set_option maxRecDepth 20000 in
theorem gX3_readInto_X1_begin : GoodIn wsX3_readInto (wsV RX3 51 RX1 yX1_begin wsX1_begin) := goodIn_app (goodIn_of _ (by decide +kernel)) ggX3_readInto_X1_begin
set_option maxRecDepth 20000 in
theorem ggX3_readInto_X3_takeTokens : GoodIn wsX3_readInto wsX3_takeTokens := goodIn_r _ [29, 30, 5, 31, 32, 33, 34, 16, 35, 24, 23, 18, 36, 37, 38, 39, 40, 41, 42, 43, 44, 45, 46, 47, 48, 49, 50, 51, 52, 53, 54, 55, 56, 57, 58, 59, 60, 61, 62, 63, 64, 65, 28, 66, 67, 68, 69, 70, 71, 72, 73, 74, 75, 76, 77, 78, 79, 80, 81, 82, 83, 84, 85, 86, 87, 88, 89, 90, 91, 92, 93, 94, 95, 96, 97, 98, 99, 100, 101, 102, 103, 104, 105, 106, 107, 108, 109, 2, 3, 110, 111, 112, 113, 1, 114, 115, 116, 117, 118, 119, 120, 121, 9, 122, 11, 123, 124, 125, 126, 127, 128, 129, 130, 131, 132, 133, 134, 135, 12, 136, 137, 138, 139, 140, 141, 142, 143, 144, 145, 146, 147, 148, 149, 150, 151, 152, 153, 154, 155, 4, 156, 157, 158, 159, 160, 161, 162, 163, 164, 165, 166, 167, 168, 169, 170, 171, 172, 173, 174, 175, 176, 177, 178, 179, 180, 181, 182, 183, 184, 185, 186, 187, 188, 189, 190, 191, 192, 193, 194, 245, 246, 247, 248, 249, 250, 251, 252, 253, 254, 255, 256, 257, 258, 259, 260, 261, 275, 276, 277, 278, 279, 280, 281, 262, 263, 264, 265, 266, 267, 268, 269, 270, 271, 272, 273, 274] (by decide +kernel) (by decide +kernel)
set_option maxRecDepth 20000 in
theorem gX3_readInto_X3_takeTokens : GoodIn wsX3_readInto (wsV RX3 55 RX3 yX3_takeTokens wsX3_takeTokens) := goodIn_app (goodIn_of _ (by decide +kernel)) ggX3_readInto_X3_takeTokens
set_option maxRecDepth 20000 in
theorem ggX3_readInto_X3_linkUses : GoodIn wsX3_readInto wsX3_linkUses := goodIn_r _ [198, 4, 1, 157, 156, 180, 119, 120, 121, 9, 122, 11, 123, 158, 159, 28, 160, 199, 200, 201, 202, 129, 203, 169, 170, 171, 106, 107, 108, 109, 2, 3, 204, 205, 206, 207, 133, 208, 209, 210, 211, 132, 212, 213, 214, 215, 216, 134, 245, 246, 247, 248, 249, 250, 251, 252, 253, 254, 255, 256, 257, 258, 259, 260, 261, 262, 263, 264, 265, 266, 267, 268, 269, 270, 271, 272, 273, 274] (by decide +kernel) (by decide +kernel)
set_option maxRecDepth 20000 in
theorem gX3_readInto_X3_linkUses : GoodIn wsX3_readInto (wsV RX3 59 RX3 yX3_linkUses wsX3_linkUses) := goodIn_app (goodIn_of _ (by decide +kernel)) ggX3_readInto_X3_linkUses
set_option maxRecDepth 20000 in
theorem ggX3_readInto_X3_checkLoops : GoodIn wsX3_readInto wsX3_checkLoops := goodIn_r _ [220, 1, 114, 221, 222, 223, 224, 225, 226, 227, 106, 107, 108, 28, 109, 2, 3, 245, 246, 247, 248, 249, 250, 251, 252, 253, 254, 255, 256, 257, 258, 259, 260, 261, 262, 263, 264, 265, 266, 267, 268, 269, 270, 271, 272, 273, 274] (by decide +kernel) (by decide +kernel)
set_option maxRecDepth 20000 in
theorem gX3_readInto_X3_checkLoops : GoodIn wsX3_readInto (wsV RX3 62 RX3 yX3_checkLoops wsX3_checkLoops) := goodIn_app (goodIn_of _ (by decide +kernel)) ggX3_readInto_X3_checkLoops
set_option maxRecDepth 20000 in
theorem ggX3_readInto_X0_arrange : GoodIn wsX3_readInto wsX0_arrange := goodIn_r _ [231, 11, 232, 233, 135, 134, 234, 235, 236, 9, 237, 238, 239, 240, 241, 242, 243, 21, 244, 262, 263, 264, 265, 266, 267, 268, 269, 270, 271, 272, 273, 274] (by decide +kernel) (by decide +kernel)
set_option maxRecDepth 20000 in
theorem gX3_readInto_X0_arrange : GoodIn wsX3_readInto (wsV RX3 65 RX0 yX0_arrange wsX0_arrange) := goodIn_app (goodIn_of _ (by decide +kernel)) ggX3_readInto_X0_arrange
theorem dX3_readInto_0 : decode cX3_readInto 0 = .ok (.aload_n 0, 1) := by decide +kernel
theorem dX3_readInto_1 : decode cX3_readInto 1 = .ok (.aload_n 1, 1) := by decide +kernel
theorem dX3_readInto_2 : decode cX3_readInto 2 = .ok (.putfield 36, 3) := by decide +kernel
theorem dX3_readInto_5 : decode cX3_readInto 5 = .ok (.aload_n 0, 1) := by decide +kernel
theorem dX3_readInto_6 : decode cX3_readInto 6 = .ok (.getfield 36, 3) := by decide +kernel
theorem dX3_readInto_9 : decode cX3_readInto 9 = .ok (.invokevirtual 40, 3) := by decide +kernel
theorem dX3_readInto_12 : decode cX3_readInto 12 = .ok (.aload_n 0, 1) := by decide +kernel
theorem dX3_readInto_13 : decode cX3_readInto 13 = .ok (.iconst 0, 1) := by decide +kernel
theorem dX3_readInto_14 : decode cX3_readInto 14 = .ok (.putfield 45, 3) := by decide +kernel
theorem dX3_readInto_17 : decode cX3_readInto 17 = .ok (.aload_n 0, 1) := by decide +kernel
theorem dX3_readInto_18 : decode cX3_readInto 18 = .ok (.iconst (-1), 1) := by decide +kernel
theorem dX3_readInto_19 : decode cX3_readInto 19 = .ok (.putfield 9, 3) := by decide +kernel
theorem dX3_readInto_22 : decode cX3_readInto 22 = .ok (.aload_n 0, 1) := by decide +kernel
theorem dX3_readInto_23 : decode cX3_readInto 23 = .ok (.iconst 0, 1) := by decide +kernel
theorem dX3_readInto_24 : decode cX3_readInto 24 = .ok (.putfield 48, 3) := by decide +kernel
theorem dX3_readInto_27 : decode cX3_readInto 27 = .ok (.aload_n 0, 1) := by decide +kernel
theorem dX3_readInto_28 : decode cX3_readInto 28 = .ok (.getfield 18, 3) := by decide +kernel
theorem dX3_readInto_31 : decode cX3_readInto 31 = .ok (.aload_n 2, 1) := by decide +kernel
theorem dX3_readInto_32 : decode cX3_readInto 32 = .ok (.iload_n 3, 1) := by decide +kernel
theorem dX3_readInto_33 : decode cX3_readInto 33 = .ok (.invokevirtual 51, 3) := by decide +kernel
theorem dX3_readInto_36 : decode cX3_readInto 36 = .ok (.aload_n 0, 1) := by decide +kernel
theorem dX3_readInto_37 : decode cX3_readInto 37 = .ok (.invokevirtual 55, 3) := by decide +kernel
theorem dX3_readInto_40 : decode cX3_readInto 40 = .ok (.ifCond .eq 17, 3) := by decide +kernel
theorem dX3_readInto_43 : decode cX3_readInto 43 = .ok (.aload_n 0, 1) := by decide +kernel
theorem dX3_readInto_44 : decode cX3_readInto 44 = .ok (.invokevirtual 59, 3) := by decide +kernel
theorem dX3_readInto_47 : decode cX3_readInto 47 = .ok (.ifCond .eq 10, 3) := by decide +kernel
theorem dX3_readInto_50 : decode cX3_readInto 50 = .ok (.aload_n 0, 1) := by decide +kernel
theorem dX3_readInto_51 : decode cX3_readInto 51 = .ok (.invokevirtual 62, 3) := by decide +kernel
theorem dX3_readInto_54 : decode cX3_readInto 54 = .ok (.ifCond .ne 5, 3) := by decide +kernel
theorem dX3_readInto_57 : decode cX3_readInto 57 = .ok (.iconst 0, 1) := by decide +kernel
theorem dX3_readInto_58 : decode cX3_readInto 58 = .ok (.ireturn, 1) := by decide +kernel
theorem dX3_readInto_59 : decode cX3_readInto 59 = .ok (.aload_n 0, 1) := by decide +kernel
theorem dX3_readInto_60 : decode cX3_readInto 60 = .ok (.getfield 36, 3) := by decide +kernel
theorem dX3_readInto_63 : decode cX3_readInto 63 = .ok (.invokevirtual 65, 3) := by decide +kernel
theorem dX3_readInto_66 : decode cX3_readInto 66 = .ok (.iconst 1, 1) := by decide +kernel
theorem dX3_readInto_67 : decode cX3_readInto 67 = .ok (.ireturn, 1) := by decide +kernel
set_option maxRecDepth 20000 in
theorem ggX3_takeTokens_X1_advance : GoodIn wsX3_takeTokens wsX1_advance := goodIn_r _ [8, 9, 10, 11, 12, 13, 14, 15, 7, 16, 17, 18, 19, 20, 21, 22, 23, 24, 25, 26, 27, 28, 29, 30, 31, 32, 33, 34, 35, 36, 37, 38, 196, 197, 198, 199, 200, 201, 202] (by decide +kernel) (by decide +kernel)
set_option maxRecDepth 20000 in
theorem gX3_takeTokens_X1_advance : GoodIn wsX3_takeTokens (wsV RX3 71 RX1 yX1_advance wsX1_advance) := goodIn_app (goodIn_of _ (by decide +kernel)) ggX3_takeTokens_X1_advance
set_option maxRecDepth 20000 in
theorem ggX3_takeTokens_X3_step : GoodIn wsX3_takeTokens wsX3_step := goodIn_r _ [43, 1, 2, 3, 44, 45, 46, 42, 47, 48, 49, 50, 51, 52, 53, 54, 55, 56, 57, 58, 59, 60, 61, 62, 63, 64, 65, 66, 67, 68, 69, 70, 71, 72, 73, 74, 75, 76, 77, 78, 79, 80, 81, 82, 83, 84, 85, 86, 87, 88, 89, 90, 91, 92, 93, 94, 95, 96, 97, 98, 99, 100, 101, 102, 103, 104, 105, 106, 107, 108, 109, 110, 111, 112, 113, 114, 115, 116, 117, 118, 119, 120, 121, 122, 123, 124, 125, 126, 127, 128, 129, 130, 131, 132, 133, 134, 135, 136, 137, 138, 139, 140, 141, 142, 143, 144, 145, 146, 147, 148, 149, 150, 151, 152, 153, 154, 155, 156, 157, 158, 159, 160, 161, 162, 163, 164, 165, 166, 167, 168, 169, 170, 171, 172, 173, 174, 175, 176, 177, 178, 179, 180, 181, 182, 183, 184, 185, 186, 187, 188, 189, 190, 191, 192, 193, 194, 195, 196, 197, 198, 199, 200, 201, 202, 203, 204, 205, 206, 207, 208, 209, 210, 211, 212, 213, 214, 215] (by decide +kernel) (by decide +kernel)
set_option maxRecDepth 20000 in
theorem gX3_takeTokens_X3_step : GoodIn wsX3_takeTokens (wsV RX3 77 RX3 yX3_step wsX3_step) := goodIn_app (goodIn_of _ (by decide +kernel)) ggX3_takeTokens_X3_step
set_option maxRecDepth 20000 in
theorem ggX3_takeTokens_X3_refuse : GoodIn wsX3_takeTokens wsX3_refuse := goodIn_r _ [82, 2, 3, 53, 83, 84, 85, 42, 86, 87, 88, 179, 180, 181, 182, 183, 184, 185, 186, 187, 188, 189, 190, 191, 192, 193, 194, 195, 196, 197, 198, 199, 200, 201, 202] (by decide +kernel) (by decide +kernel)
set_option maxRecDepth 20000 in
theorem gX3_takeTokens_X3_refuse : GoodIn wsX3_takeTokens (wsV RX3 80 RX3 yX3_refuse wsX3_refuse) := goodIn_app (goodIn_of _ (by decide +kernel)) ggX3_takeTokens_X3_refuse
theorem dX3_takeTokens_0 : decode cX3_takeTokens 0 = .ok (.aload_n 0, 1) := by decide +kernel
theorem dX3_takeTokens_1 : decode cX3_takeTokens 1 = .ok (.iconst 0, 1) := by decide +kernel
theorem dX3_takeTokens_2 : decode cX3_takeTokens 2 = .ok (.putfield 68, 3) := by decide +kernel
theorem dX3_takeTokens_5 : decode cX3_takeTokens 5 = .ok (.aload_n 0, 1) := by decide +kernel
theorem dX3_takeTokens_6 : decode cX3_takeTokens 6 = .ok (.getfield 18, 3) := by decide +kernel
theorem dX3_takeTokens_9 : decode cX3_takeTokens 9 = .ok (.invokevirtual 71, 3) := by decide +kernel
theorem dX3_takeTokens_12 : decode cX3_takeTokens 12 = .ok (.iconst 0, 1) := by decide +kernel
theorem dX3_takeTokens_13 : decode cX3_takeTokens 13 = .ok (.istore_n 1, 1) := by decide +kernel
theorem dX3_takeTokens_14 : decode cX3_takeTokens 14 = .ok (.iload_n 1, 1) := by decide +kernel
theorem dX3_takeTokens_15 : decode cX3_takeTokens 15 = .ok (.sipush 2000, 3) := by decide +kernel
theorem dX3_takeTokens_18 : decode cX3_takeTokens 18 = .ok (.if_icmp .ge 36, 3) := by decide +kernel
theorem dX3_takeTokens_21 : decode cX3_takeTokens 21 = .ok (.aload_n 0, 1) := by decide +kernel
theorem dX3_takeTokens_22 : decode cX3_takeTokens 22 = .ok (.getfield 18, 3) := by decide +kernel
theorem dX3_takeTokens_25 : decode cX3_takeTokens 25 = .ok (.getfield 74, 3) := by decide +kernel
theorem dX3_takeTokens_28 : decode cX3_takeTokens 28 = .ok (.iconst 1, 1) := by decide +kernel
theorem dX3_takeTokens_29 : decode cX3_takeTokens 29 = .ok (.if_icmp .eq 25, 3) := by decide +kernel
theorem dX3_takeTokens_32 : decode cX3_takeTokens 32 = .ok (.aload_n 0, 1) := by decide +kernel
theorem dX3_takeTokens_33 : decode cX3_takeTokens 33 = .ok (.invokevirtual 77, 3) := by decide +kernel
theorem dX3_takeTokens_36 : decode cX3_takeTokens 36 = .ok (.ifCond .ne 5, 3) := by decide +kernel
theorem dX3_takeTokens_39 : decode cX3_takeTokens 39 = .ok (.iconst 0, 1) := by decide +kernel
theorem dX3_takeTokens_40 : decode cX3_takeTokens 40 = .ok (.ireturn, 1) := by decide +kernel
theorem dX3_takeTokens_41 : decode cX3_takeTokens 41 = .ok (.aload_n 0, 1) := by decide +kernel
theorem dX3_takeTokens_42 : decode cX3_takeTokens 42 = .ok (.getfield 18, 3) := by decide +kernel
theorem dX3_takeTokens_45 : decode cX3_takeTokens 45 = .ok (.invokevirtual 71, 3) := by decide +kernel
theorem dX3_takeTokens_48 : decode cX3_takeTokens 48 = .ok (.iinc 1 1, 3) := by decide +kernel
theorem dX3_takeTokens_51 : decode cX3_takeTokens 51 = .ok (.goto (-37), 3) := by decide +kernel
theorem dX3_takeTokens_54 : decode cX3_takeTokens 54 = .ok (.aload_n 0, 1) := by decide +kernel
theorem dX3_takeTokens_55 : decode cX3_takeTokens 55 = .ok (.getfield 68, 3) := by decide +kernel
theorem dX3_takeTokens_58 : decode cX3_takeTokens 58 = .ok (.ifCond .eq 10, 3) := by decide +kernel
theorem dX3_takeTokens_61 : decode cX3_takeTokens 61 = .ok (.aload_n 0, 1) := by decide +kernel
theorem dX3_takeTokens_62 : decode cX3_takeTokens 62 = .ok (.invokevirtual 80, 3) := by decide +kernel
theorem dX3_takeTokens_65 : decode cX3_takeTokens 65 = .ok (.ifCond .eq 7, 3) := by decide +kernel
theorem dX3_takeTokens_68 : decode cX3_takeTokens 68 = .ok (.iconst 1, 1) := by decide +kernel
theorem dX3_takeTokens_69 : decode cX3_takeTokens 69 = .ok (.goto 4, 3) := by decide +kernel
theorem dX3_takeTokens_72 : decode cX3_takeTokens 72 = .ok (.iconst 0, 1) := by decide +kernel
theorem dX3_takeTokens_73 : decode cX3_takeTokens 73 = .ok (.ireturn, 1) := by decide +kernel
set_option maxRecDepth 20000 in
theorem ggX3_step_X3_beginLine : GoodIn wsX3_step wsX3_beginLine := goodIn_r _ [8, 9, 10, 11, 2, 12, 13, 14, 15, 16, 17, 18, 7, 19, 3, 20, 21, 22, 23, 24, 25, 26, 27, 28, 1, 29, 30, 31, 32, 33, 34, 35, 36, 37, 38, 39, 40, 41, 42, 43, 44, 45, 46, 47, 48, 49, 140, 141, 142, 143, 144, 145, 146, 147, 148, 149, 150, 151, 152, 153, 154, 155, 156, 157, 158, 159, 160, 161, 162, 163] (by decide +kernel) (by decide +kernel)
set_option maxRecDepth 20000 in
theorem gX3_step_X3_beginLine : GoodIn wsX3_step (wsV RX3 83 RX3 yX3_beginLine wsX3_beginLine) := goodIn_app (goodIn_of _ (by decide +kernel)) ggX3_step_X3_beginLine
set_option maxRecDepth 20000 in
theorem ggX3_step_X3_tellHere : GoodIn wsX3_step wsX3_tellHere := goodIn_r _ [53, 2, 12, 14, 24, 54, 55, 29, 30, 31, 7, 32, 3, 9, 10, 11, 33, 34, 35, 36, 37, 38, 39, 40, 41, 42, 43, 44, 45, 46, 47, 48, 49, 56, 57, 58, 59, 60, 61, 62, 63, 64, 65, 66, 67, 68, 69, 70, 71, 72, 73, 74, 75, 76, 77, 78, 79, 80, 81, 82, 83, 84, 85, 86, 87, 25, 26, 27, 28, 1, 140, 141, 142, 143, 144, 145, 146, 147, 148, 149, 150, 151, 152, 153, 154, 155, 156, 157, 158, 159, 160, 161, 162, 163, 164, 165, 166, 167, 168, 169, 170, 171, 172, 173, 174, 175, 176] (by decide +kernel) (by decide +kernel)
set_option maxRecDepth 20000 in
theorem gX3_step_X3_tellHere : GoodIn wsX3_step (wsV RX3 86 RX3 yX3_tellHere wsX3_tellHere) := goodIn_app (goodIn_of _ (by decide +kernel)) ggX3_step_X3_tellHere
set_option maxRecDepth 20000 in
theorem ggX3_step_X3_go : GoodIn wsX3_step wsX3_go := goodIn_r _ [28, 1, 140, 141, 142, 143, 144, 145, 146, 147, 148, 149, 150, 151, 152, 153, 154, 155, 156] (by decide +kernel) (by decide +kernel)
set_option maxRecDepth 20000 in
theorem gX3_step_X3_go : GoodIn wsX3_step (wsV RX3 89 RX3 yX3_go wsX3_go) := goodIn_app (goodIn_of _ (by decide +kernel)) ggX3_step_X3_go
set_option maxRecDepth 20000 in
theorem ggX3_step_X3_endLine : GoodIn wsX3_step wsX3_endLine := goodIn_r _ [91, 2, 3, 25, 26, 27, 7, 28, 1, 40, 41, 42, 43, 14, 44, 45, 46, 47, 48, 49, 140, 141, 142, 143, 144, 145, 146, 147, 148, 149, 150, 151, 152, 153, 154, 155, 156, 157, 158, 159, 160, 161, 162, 163] (by decide +kernel) (by decide +kernel)
set_option maxRecDepth 20000 in
theorem gX3_step_X3_endLine : GoodIn wsX3_step (wsV RX3 93 RX3 yX3_endLine wsX3_endLine) := goodIn_app (goodIn_of _ (by decide +kernel)) ggX3_step_X3_endLine
set_option maxRecDepth 20000 in
theorem ggX3_step_X3_tellOrDrive : GoodIn wsX3_step wsX3_tellOrDrive := goodIn_r _ [95, 2, 3, 24, 13, 15, 56, 57, 58, 7, 59, 54, 55, 44, 45, 46, 47, 48, 49, 60, 61, 62, 63, 64, 65, 66, 67, 68, 69, 70, 71, 72, 73, 74, 75, 76, 77, 78, 79, 25, 26, 27, 28, 1, 96, 97, 98, 99, 100, 101, 102, 103, 104, 105, 40, 41, 42, 43, 14, 140, 141, 142, 143, 144, 145, 146, 147, 148, 149, 150, 151, 152, 153, 154, 155, 156, 157, 158, 159, 160, 161, 162, 163, 164, 165, 166, 167, 168, 169, 170, 171, 172, 173, 174, 175, 176] (by decide +kernel) (by decide +kernel)
set_option maxRecDepth 20000 in
theorem gX3_step_X3_tellOrDrive : GoodIn wsX3_step (wsV RX3 96 RX3 yX3_tellOrDrive wsX3_tellOrDrive) := goodIn_app (goodIn_of _ (by decide +kernel)) ggX3_step_X3_tellOrDrive
set_option maxRecDepth 20000 in
theorem ggX3_step_X3_takeGate : GoodIn wsX3_step wsX3_takeGate := goodIn_r _ [109, 54, 55, 110, 111, 112, 35, 36, 37, 7, 38, 39, 2, 3, 12, 113, 114, 115, 63, 116, 65, 40, 41, 42, 43, 14, 44, 45, 46, 47, 48, 49, 80, 81, 82, 83, 84, 85, 86, 87, 25, 26, 27, 28, 1, 140, 141, 142, 143, 144, 145, 146, 147, 148, 149, 150, 151, 152, 153, 154, 155, 156, 164, 165, 166, 167, 168, 169, 170, 171, 172, 173, 174, 175, 176, 157, 158, 159, 160, 161, 162, 163] (by decide +kernel) (by decide +kernel)
set_option maxRecDepth 20000 in
theorem gX3_step_X3_takeGate : GoodIn wsX3_step (wsV RX3 99 RX3 yX3_takeGate wsX3_takeGate) := goodIn_app (goodIn_of _ (by decide +kernel)) ggX3_step_X3_takeGate
set_option maxRecDepth 20000 in
theorem ggX3_step_X3_takeDriver : GoodIn wsX3_step wsX3_takeDriver := goodIn_r _ [120, 33, 34, 13, 15, 16, 17, 18, 7, 19, 2, 3, 12, 40, 41, 42, 43, 14, 44, 45, 46, 47, 48, 49, 121, 122, 123, 124, 100, 102, 125, 101, 80, 81, 82, 83, 84, 85, 86, 87, 25, 26, 27, 28, 1, 140, 141, 142, 143, 144, 145, 146, 147, 148, 149, 150, 151, 152, 153, 154, 155, 156, 157, 158, 159, 160, 161, 162, 163] (by decide +kernel) (by decide +kernel)
set_option maxRecDepth 20000 in
theorem gX3_step_X3_takeDriver : GoodIn wsX3_step (wsV RX3 102 RX3 yX3_takeDriver wsX3_takeDriver) := goodIn_app (goodIn_of _ (by decide +kernel)) ggX3_step_X3_takeDriver
set_option maxRecDepth 20000 in
theorem ggX3_step_X3_refuse : GoodIn wsX3_step wsX3_refuse := goodIn_r _ [43, 2, 3, 14, 44, 45, 46, 7, 47, 48, 49, 140, 141, 142, 143, 144, 145, 146, 147, 148, 149, 150, 151, 152, 153, 154, 155, 156, 157, 158, 159, 160, 161, 162, 163] (by decide +kernel) (by decide +kernel)
set_option maxRecDepth 20000 in
theorem gX3_step_X3_refuse : GoodIn wsX3_step (wsV RX3 80 RX3 yX3_refuse wsX3_refuse) := goodIn_app (goodIn_of _ (by decide +kernel)) ggX3_step_X3_refuse
set_option maxRecDepth 20000 in
theorem ggX3_step_X3_takePart : GoodIn wsX3_step wsX3_takePart := goodIn_r _ [129, 87, 86, 2, 12, 14, 84, 29, 30, 31, 7, 32, 3, 9, 10, 11, 33, 34, 35, 36, 37, 38, 39, 40, 41, 42, 43, 44, 45, 46, 47, 48, 49, 121, 122, 123, 124, 100, 102, 125, 101, 25, 26, 27, 28, 1, 140, 141, 142, 143, 144, 145, 146, 147, 148, 149, 150, 151, 152, 153, 154, 155, 156, 157, 158, 159, 160, 161, 162, 163] (by decide +kernel) (by decide +kernel)
set_option maxRecDepth 20000 in
theorem gX3_step_X3_takePart : GoodIn wsX3_step (wsV RX3 105 RX3 yX3_takePart wsX3_takePart) := goodIn_app (goodIn_of _ (by decide +kernel)) ggX3_step_X3_takePart
set_option maxRecDepth 20000 in
theorem ggX3_step_X3_behindPart : GoodIn wsX3_step wsX3_behindPart := goodIn_r _ [133, 2, 3, 24, 87, 86, 85, 25, 26, 27, 7, 28, 1, 40, 41, 42, 43, 14, 44, 45, 46, 47, 48, 49, 140, 141, 142, 143, 144, 145, 146, 147, 148, 149, 150, 151, 152, 153, 154, 155, 156, 157, 158, 159, 160, 161, 162, 163] (by decide +kernel) (by decide +kernel)
set_option maxRecDepth 20000 in
theorem gX3_step_X3_behindPart : GoodIn wsX3_step (wsV RX3 108 RX3 yX3_behindPart wsX3_behindPart) := goodIn_app (goodIn_of _ (by decide +kernel)) ggX3_step_X3_behindPart
set_option maxRecDepth 20000 in
theorem ggX3_step_X3_takeDelay : GoodIn wsX3_step wsX3_takeDelay := goodIn_r _ [137, 54, 84, 138, 2, 139, 113, 114, 115, 63, 116, 65, 25, 26, 27, 7, 28, 1, 140, 141, 142, 143, 144, 145, 146, 147, 148, 149, 150, 151, 152, 153, 154, 155, 156, 164, 165, 166, 167, 168, 169, 170, 171, 172, 173, 174, 175, 176, 157, 158, 159, 160, 161, 162, 163] (by decide +kernel) (by decide +kernel)
set_option maxRecDepth 20000 in
theorem gX3_step_X3_takeDelay : GoodIn wsX3_step (wsV RX3 111 RX3 yX3_takeDelay wsX3_takeDelay) := goodIn_app (goodIn_of _ (by decide +kernel)) ggX3_step_X3_takeDelay
theorem dX3_step_0 : decode cX3_step 0 = .ok (.aload_n 0, 1) := by decide +kernel
theorem dX3_step_1 : decode cX3_step 1 = .ok (.getfield 68, 3) := by decide +kernel
theorem dX3_step_4 : decode cX3_step 4 = .ok (.tableswitch 165 0 9 #[56, 61, 66, 91, 96, 101, 106, 132, 137, 142], 56) := by decide +kernel
theorem dX3_step_60 : decode cX3_step 60 = .ok (.aload_n 0, 1) := by decide +kernel
theorem dX3_step_61 : decode cX3_step 61 = .ok (.invokevirtual 83, 3) := by decide +kernel
theorem dX3_step_64 : decode cX3_step 64 = .ok (.ireturn, 1) := by decide +kernel
theorem dX3_step_65 : decode cX3_step 65 = .ok (.aload_n 0, 1) := by decide +kernel
theorem dX3_step_66 : decode cX3_step 66 = .ok (.invokevirtual 86, 3) := by decide +kernel
theorem dX3_step_69 : decode cX3_step 69 = .ok (.ireturn, 1) := by decide +kernel
theorem dX3_step_70 : decode cX3_step 70 = .ok (.aload_n 0, 1) := by decide +kernel
theorem dX3_step_71 : decode cX3_step 71 = .ok (.getfield 18, 3) := by decide +kernel
theorem dX3_step_74 : decode cX3_step 74 = .ok (.getfield 74, 3) := by decide +kernel
theorem dX3_step_77 : decode cX3_step 77 = .ok (.bipush 44, 2) := by decide +kernel
theorem dX3_step_79 : decode cX3_step 79 = .ok (.if_icmp .ne 11, 3) := by decide +kernel
theorem dX3_step_82 : decode cX3_step 82 = .ok (.aload_n 0, 1) := by decide +kernel
theorem dX3_step_83 : decode cX3_step 83 = .ok (.iconst 1, 1) := by decide +kernel
theorem dX3_step_84 : decode cX3_step 84 = .ok (.invokevirtual 89, 3) := by decide +kernel
theorem dX3_step_87 : decode cX3_step 87 = .ok (.goto 7, 3) := by decide +kernel
theorem dX3_step_90 : decode cX3_step 90 = .ok (.aload_n 0, 1) := by decide +kernel
theorem dX3_step_91 : decode cX3_step 91 = .ok (.invokevirtual 93, 3) := by decide +kernel
theorem dX3_step_94 : decode cX3_step 94 = .ok (.ireturn, 1) := by decide +kernel
theorem dX3_step_95 : decode cX3_step 95 = .ok (.aload_n 0, 1) := by decide +kernel
theorem dX3_step_96 : decode cX3_step 96 = .ok (.invokevirtual 96, 3) := by decide +kernel
theorem dX3_step_99 : decode cX3_step 99 = .ok (.ireturn, 1) := by decide +kernel
theorem dX3_step_100 : decode cX3_step 100 = .ok (.aload_n 0, 1) := by decide +kernel
theorem dX3_step_101 : decode cX3_step 101 = .ok (.invokevirtual 99, 3) := by decide +kernel
theorem dX3_step_104 : decode cX3_step 104 = .ok (.ireturn, 1) := by decide +kernel
theorem dX3_step_105 : decode cX3_step 105 = .ok (.aload_n 0, 1) := by decide +kernel
theorem dX3_step_106 : decode cX3_step 106 = .ok (.invokevirtual 102, 3) := by decide +kernel
theorem dX3_step_109 : decode cX3_step 109 = .ok (.ireturn, 1) := by decide +kernel
theorem dX3_step_110 : decode cX3_step 110 = .ok (.aload_n 0, 1) := by decide +kernel
theorem dX3_step_111 : decode cX3_step 111 = .ok (.getfield 18, 3) := by decide +kernel
theorem dX3_step_114 : decode cX3_step 114 = .ok (.getfield 74, 3) := by decide +kernel
theorem dX3_step_117 : decode cX3_step 117 = .ok (.bipush 40, 2) := by decide +kernel
theorem dX3_step_119 : decode cX3_step 119 = .ok (.if_icmp .ne 12, 3) := by decide +kernel
theorem dX3_step_122 : decode cX3_step 122 = .ok (.aload_n 0, 1) := by decide +kernel
theorem dX3_step_123 : decode cX3_step 123 = .ok (.bipush 7, 2) := by decide +kernel
theorem dX3_step_125 : decode cX3_step 125 = .ok (.invokevirtual 89, 3) := by decide +kernel
theorem dX3_step_128 : decode cX3_step 128 = .ok (.goto 7, 3) := by decide +kernel
theorem dX3_step_131 : decode cX3_step 131 = .ok (.aload_n 0, 1) := by decide +kernel
theorem dX3_step_132 : decode cX3_step 132 = .ok (.invokevirtual 80, 3) := by decide +kernel
theorem dX3_step_135 : decode cX3_step 135 = .ok (.ireturn, 1) := by decide +kernel
theorem dX3_step_136 : decode cX3_step 136 = .ok (.aload_n 0, 1) := by decide +kernel
theorem dX3_step_137 : decode cX3_step 137 = .ok (.invokevirtual 105, 3) := by decide +kernel
theorem dX3_step_140 : decode cX3_step 140 = .ok (.ireturn, 1) := by decide +kernel
theorem dX3_step_141 : decode cX3_step 141 = .ok (.aload_n 0, 1) := by decide +kernel
theorem dX3_step_142 : decode cX3_step 142 = .ok (.invokevirtual 108, 3) := by decide +kernel
theorem dX3_step_145 : decode cX3_step 145 = .ok (.ireturn, 1) := by decide +kernel
theorem dX3_step_146 : decode cX3_step 146 = .ok (.aload_n 0, 1) := by decide +kernel
theorem dX3_step_147 : decode cX3_step 147 = .ok (.getfield 18, 3) := by decide +kernel
theorem dX3_step_150 : decode cX3_step 150 = .ok (.getfield 74, 3) := by decide +kernel
theorem dX3_step_153 : decode cX3_step 153 = .ok (.iconst 3, 1) := by decide +kernel
theorem dX3_step_154 : decode cX3_step 154 = .ok (.if_icmp .ne 10, 3) := by decide +kernel
theorem dX3_step_157 : decode cX3_step 157 = .ok (.aload_n 0, 1) := by decide +kernel
theorem dX3_step_158 : decode cX3_step 158 = .ok (.invokevirtual 111, 3) := by decide +kernel
theorem dX3_step_161 : decode cX3_step 161 = .ok (.goto 7, 3) := by decide +kernel
theorem dX3_step_164 : decode cX3_step 164 = .ok (.aload_n 0, 1) := by decide +kernel
theorem dX3_step_165 : decode cX3_step 165 = .ok (.invokevirtual 93, 3) := by decide +kernel
theorem dX3_step_168 : decode cX3_step 168 = .ok (.ireturn, 1) := by decide +kernel
theorem dX3_step_169 : decode cX3_step 169 = .ok (.aload_n 0, 1) := by decide +kernel
theorem dX3_step_170 : decode cX3_step 170 = .ok (.invokevirtual 93, 3) := by decide +kernel
theorem dX3_step_173 : decode cX3_step 173 = .ok (.ireturn, 1) := by decide +kernel
theorem dX3_go_0 : decode cX3_go 0 = .ok (.aload_n 0, 1) := by decide +kernel
theorem dX3_go_1 : decode cX3_go 1 = .ok (.iload_n 1, 1) := by decide +kernel
theorem dX3_go_2 : decode cX3_go 2 = .ok (.putfield 68, 3) := by decide +kernel
theorem dX3_go_5 : decode cX3_go 5 = .ok (.iconst 1, 1) := by decide +kernel
theorem dX3_go_6 : decode cX3_go 6 = .ok (.ireturn, 1) := by decide +kernel
theorem dX3_failAt_0 : decode cX3_failAt 0 = .ok (.aload_n 0, 1) := by decide +kernel
theorem dX3_failAt_1 : decode cX3_failAt 1 = .ok (.iload_n 1, 1) := by decide +kernel
theorem dX3_failAt_2 : decode cX3_failAt 2 = .ok (.putfield 45, 3) := by decide +kernel
theorem dX3_failAt_5 : decode cX3_failAt 5 = .ok (.aload_n 0, 1) := by decide +kernel
theorem dX3_failAt_6 : decode cX3_failAt 6 = .ok (.iload_n 2, 1) := by decide +kernel
theorem dX3_failAt_7 : decode cX3_failAt 7 = .ok (.putfield 9, 3) := by decide +kernel
theorem dX3_failAt_10 : decode cX3_failAt 10 = .ok (.iconst 0, 1) := by decide +kernel
theorem dX3_failAt_11 : decode cX3_failAt 11 = .ok (.ireturn, 1) := by decide +kernel
set_option maxRecDepth 20000 in
theorem ggX3_refuse_X3_failAt : GoodIn wsX3_refuse wsX3_failAt := goodIn_r _ [8, 9, 10, 11, 12, 13, 14, 15, 16, 17, 18, 19, 20, 21, 22, 23, 24, 25, 26, 27] (by decide +kernel) (by decide +kernel)
set_option maxRecDepth 20000 in
theorem gX3_refuse_X3_failAt : GoodIn wsX3_refuse (wsV RX3 117 RX3 yX3_failAt wsX3_failAt) := goodIn_app (goodIn_of _ (by decide +kernel)) ggX3_refuse_X3_failAt
theorem dX3_refuse_0 : decode cX3_refuse 0 = .ok (.aload_n 0, 1) := by decide +kernel
theorem dX3_refuse_1 : decode cX3_refuse 1 = .ok (.aload_n 0, 1) := by decide +kernel
theorem dX3_refuse_2 : decode cX3_refuse 2 = .ok (.getfield 18, 3) := by decide +kernel
theorem dX3_refuse_5 : decode cX3_refuse 5 = .ok (.getfield 74, 3) := by decide +kernel
theorem dX3_refuse_8 : decode cX3_refuse 8 = .ok (.ifCond .ne 7, 3) := by decide +kernel
theorem dX3_refuse_11 : decode cX3_refuse 11 = .ok (.iconst 1, 1) := by decide +kernel
theorem dX3_refuse_12 : decode cX3_refuse 12 = .ok (.goto 4, 3) := by decide +kernel
theorem dX3_refuse_15 : decode cX3_refuse 15 = .ok (.iconst 2, 1) := by decide +kernel
theorem dX3_refuse_16 : decode cX3_refuse 16 = .ok (.aload_n 0, 1) := by decide +kernel
theorem dX3_refuse_17 : decode cX3_refuse 17 = .ok (.getfield 18, 3) := by decide +kernel
theorem dX3_refuse_20 : decode cX3_refuse 20 = .ok (.getfield 114, 3) := by decide +kernel
theorem dX3_refuse_23 : decode cX3_refuse 23 = .ok (.invokevirtual 117, 3) := by decide +kernel
theorem dX3_refuse_26 : decode cX3_refuse 26 = .ok (.ireturn, 1) := by decide +kernel
set_option maxRecDepth 20000 in
theorem ggX3_endLine_X3_go : GoodIn wsX3_endLine wsX3_go := goodIn_r _ [7, 8, 20, 21, 22, 23, 24, 25, 26, 27, 28, 29, 30, 31, 32, 33, 34, 35, 36] (by decide +kernel) (by decide +kernel)
set_option maxRecDepth 20000 in
theorem gX3_endLine_X3_go : GoodIn wsX3_endLine (wsV RX3 89 RX3 yX3_go wsX3_go) := goodIn_app (goodIn_of _ (by decide +kernel)) ggX3_endLine_X3_go
set_option maxRecDepth 20000 in
theorem ggX3_endLine_X3_refuse : GoodIn wsX3_endLine wsX3_refuse := goodIn_r _ [12, 1, 2, 13, 14, 15, 16, 6, 17, 18, 19, 20, 21, 22, 23, 24, 25, 26, 27, 28, 29, 30, 31, 32, 33, 34, 35, 36, 37, 38, 39, 40, 41, 42, 43] (by decide +kernel) (by decide +kernel)
set_option maxRecDepth 20000 in
theorem gX3_endLine_X3_refuse : GoodIn wsX3_endLine (wsV RX3 80 RX3 yX3_refuse wsX3_refuse) := goodIn_app (goodIn_of _ (by decide +kernel)) ggX3_endLine_X3_refuse
theorem dX3_endLine_0 : decode cX3_endLine 0 = .ok (.aload_n 0, 1) := by decide +kernel
theorem dX3_endLine_1 : decode cX3_endLine 1 = .ok (.getfield 18, 3) := by decide +kernel
theorem dX3_endLine_4 : decode cX3_endLine 4 = .ok (.getfield 74, 3) := by decide +kernel
theorem dX3_endLine_7 : decode cX3_endLine 7 = .ok (.bipush 59, 2) := by decide +kernel
theorem dX3_endLine_9 : decode cX3_endLine 9 = .ok (.if_icmp .ne 11, 3) := by decide +kernel
theorem dX3_endLine_12 : decode cX3_endLine 12 = .ok (.aload_n 0, 1) := by decide +kernel
theorem dX3_endLine_13 : decode cX3_endLine 13 = .ok (.iconst 0, 1) := by decide +kernel
theorem dX3_endLine_14 : decode cX3_endLine 14 = .ok (.invokevirtual 89, 3) := by decide +kernel
theorem dX3_endLine_17 : decode cX3_endLine 17 = .ok (.goto 7, 3) := by decide +kernel
theorem dX3_endLine_20 : decode cX3_endLine 20 = .ok (.aload_n 0, 1) := by decide +kernel
theorem dX3_endLine_21 : decode cX3_endLine 21 = .ok (.invokevirtual 80, 3) := by decide +kernel
theorem dX3_endLine_24 : decode cX3_endLine 24 = .ok (.ireturn, 1) := by decide +kernel
set_option maxRecDepth 20000 in
theorem ggX3_beginLine_X3_isWord : GoodIn wsX3_beginLine wsX3_isWord := goodIn_r _ [13, 4, 14, 5, 46, 47, 48, 49, 50, 51, 52, 53, 54, 55, 56, 57, 58, 59, 60, 61, 62, 63, 64, 65, 66, 67, 68, 69] (by decide +kernel) (by decide +kernel)
set_option maxRecDepth 20000 in
theorem gX3_beginLine_X3_isWord : GoodIn wsX3_beginLine (wsV RX3 123 RX3 yX3_isWord wsX3_isWord) := goodIn_app (goodIn_of _ (by decide +kernel)) ggX3_beginLine_X3_isWord
set_option maxRecDepth 20000 in
theorem ggX3_beginLine_X3_beginTelling : GoodIn wsX3_beginLine wsX3_beginTelling := goodIn_r _ [18, 19, 20, 21, 22, 12, 23, 24, 46, 47, 48, 49, 50, 51, 52, 53, 54, 55, 56, 57, 58, 59, 60, 61, 62] (by decide +kernel) (by decide +kernel)
set_option maxRecDepth 20000 in
theorem gX3_beginLine_X3_beginTelling : GoodIn wsX3_beginLine (wsV RX3 127 RX3 yX3_beginTelling wsX3_beginTelling) := goodIn_app (goodIn_of _ (by decide +kernel)) ggX3_beginLine_X3_beginTelling
set_option maxRecDepth 20000 in
theorem ggX3_beginLine_X3_isName : GoodIn wsX3_beginLine wsX3_isName := goodIn_r _ [28, 4, 14, 5, 1, 2, 3, 29, 30, 31, 32, 33, 12, 34, 35, 46, 47, 48, 49, 50, 51, 52, 53, 54, 55, 56, 57, 58, 59, 60, 61, 62, 63, 64, 65, 66, 67, 68, 69] (by decide +kernel) (by decide +kernel)
set_option maxRecDepth 20000 in
theorem gX3_beginLine_X3_isName : GoodIn wsX3_beginLine (wsV RX3 134 RX3 yX3_isName wsX3_isName) := goodIn_app (goodIn_of _ (by decide +kernel)) ggX3_beginLine_X3_isName
set_option maxRecDepth 20000 in
theorem ggX3_beginLine_X3_refuse : GoodIn wsX3_beginLine wsX3_refuse := goodIn_r _ [39, 4, 14, 7, 40, 41, 42, 12, 43, 44, 45, 46, 47, 48, 49, 50, 51, 52, 53, 54, 55, 56, 57, 58, 59, 60, 61, 62, 63, 64, 65, 66, 67, 68, 69] (by decide +kernel) (by decide +kernel)
set_option maxRecDepth 20000 in
theorem gX3_beginLine_X3_refuse : GoodIn wsX3_beginLine (wsV RX3 80 RX3 yX3_refuse wsX3_refuse) := goodIn_app (goodIn_of _ (by decide +kernel)) ggX3_beginLine_X3_refuse
set_option maxRecDepth 20000 in
theorem ggX3_beginLine_X3_go : GoodIn wsX3_beginLine wsX3_go := goodIn_r _ [23, 24, 46, 47, 48, 49, 50, 51, 52, 53, 54, 55, 56, 57, 58, 59, 60, 61, 62] (by decide +kernel) (by decide +kernel)
set_option maxRecDepth 20000 in
theorem gX3_beginLine_X3_go : GoodIn wsX3_beginLine (wsV RX3 89 RX3 yX3_go wsX3_go) := goodIn_app (goodIn_of _ (by decide +kernel)) ggX3_beginLine_X3_go
theorem dX3_beginLine_0 : decode cX3_beginLine 0 = .ok (.aload_n 0, 1) := by decide +kernel
theorem dX3_beginLine_1 : decode cX3_beginLine 1 = .ok (.ldc2_w 121, 3) := by decide +kernel
theorem dX3_beginLine_4 : decode cX3_beginLine 4 = .ok (.invokevirtual 123, 3) := by decide +kernel
theorem dX3_beginLine_7 : decode cX3_beginLine 7 = .ok (.ifCond .eq 9, 3) := by decide +kernel
theorem dX3_beginLine_10 : decode cX3_beginLine 10 = .ok (.aload_n 0, 1) := by decide +kernel
theorem dX3_beginLine_11 : decode cX3_beginLine 11 = .ok (.iconst 0, 1) := by decide +kernel
theorem dX3_beginLine_12 : decode cX3_beginLine 12 = .ok (.invokevirtual 127, 3) := by decide +kernel
theorem dX3_beginLine_15 : decode cX3_beginLine 15 = .ok (.ireturn, 1) := by decide +kernel
theorem dX3_beginLine_16 : decode cX3_beginLine 16 = .ok (.aload_n 0, 1) := by decide +kernel
theorem dX3_beginLine_17 : decode cX3_beginLine 17 = .ok (.ldc2_w 130, 3) := by decide +kernel
theorem dX3_beginLine_20 : decode cX3_beginLine 20 = .ok (.invokevirtual 123, 3) := by decide +kernel
theorem dX3_beginLine_23 : decode cX3_beginLine 23 = .ok (.ifCond .eq 9, 3) := by decide +kernel
theorem dX3_beginLine_26 : decode cX3_beginLine 26 = .ok (.aload_n 0, 1) := by decide +kernel
theorem dX3_beginLine_27 : decode cX3_beginLine 27 = .ok (.iconst 1, 1) := by decide +kernel
theorem dX3_beginLine_28 : decode cX3_beginLine 28 = .ok (.invokevirtual 127, 3) := by decide +kernel
theorem dX3_beginLine_31 : decode cX3_beginLine 31 = .ok (.ireturn, 1) := by decide +kernel
theorem dX3_beginLine_32 : decode cX3_beginLine 32 = .ok (.aload_n 0, 1) := by decide +kernel
theorem dX3_beginLine_33 : decode cX3_beginLine 33 = .ok (.ldc2_w 132, 3) := by decide +kernel
theorem dX3_beginLine_36 : decode cX3_beginLine 36 = .ok (.invokevirtual 123, 3) := by decide +kernel
theorem dX3_beginLine_39 : decode cX3_beginLine 39 = .ok (.ifCond .eq 9, 3) := by decide +kernel
theorem dX3_beginLine_42 : decode cX3_beginLine 42 = .ok (.aload_n 0, 1) := by decide +kernel
theorem dX3_beginLine_43 : decode cX3_beginLine 43 = .ok (.iconst 3, 1) := by decide +kernel
theorem dX3_beginLine_44 : decode cX3_beginLine 44 = .ok (.invokevirtual 127, 3) := by decide +kernel
theorem dX3_beginLine_47 : decode cX3_beginLine 47 = .ok (.ireturn, 1) := by decide +kernel
theorem dX3_beginLine_48 : decode cX3_beginLine 48 = .ok (.aload_n 0, 1) := by decide +kernel
theorem dX3_beginLine_49 : decode cX3_beginLine 49 = .ok (.invokevirtual 134, 3) := by decide +kernel
theorem dX3_beginLine_52 : decode cX3_beginLine 52 = .ok (.ifCond .ne 8, 3) := by decide +kernel
theorem dX3_beginLine_55 : decode cX3_beginLine 55 = .ok (.aload_n 0, 1) := by decide +kernel
theorem dX3_beginLine_56 : decode cX3_beginLine 56 = .ok (.invokevirtual 80, 3) := by decide +kernel
theorem dX3_beginLine_59 : decode cX3_beginLine 59 = .ok (.ireturn, 1) := by decide +kernel
theorem dX3_beginLine_60 : decode cX3_beginLine 60 = .ok (.aload_n 0, 1) := by decide +kernel
theorem dX3_beginLine_61 : decode cX3_beginLine 61 = .ok (.aload_n 0, 1) := by decide +kernel
theorem dX3_beginLine_62 : decode cX3_beginLine 62 = .ok (.getfield 18, 3) := by decide +kernel
theorem dX3_beginLine_65 : decode cX3_beginLine 65 = .ok (.getfield 137, 3) := by decide +kernel
theorem dX3_beginLine_68 : decode cX3_beginLine 68 = .ok (.putfield 141, 3) := by decide +kernel
theorem dX3_beginLine_71 : decode cX3_beginLine 71 = .ok (.aload_n 0, 1) := by decide +kernel
theorem dX3_beginLine_72 : decode cX3_beginLine 72 = .ok (.aload_n 0, 1) := by decide +kernel
theorem dX3_beginLine_73 : decode cX3_beginLine 73 = .ok (.getfield 18, 3) := by decide +kernel
theorem dX3_beginLine_76 : decode cX3_beginLine 76 = .ok (.getfield 114, 3) := by decide +kernel
theorem dX3_beginLine_79 : decode cX3_beginLine 79 = .ok (.putfield 144, 3) := by decide +kernel
theorem dX3_beginLine_82 : decode cX3_beginLine 82 = .ok (.aload_n 0, 1) := by decide +kernel
theorem dX3_beginLine_83 : decode cX3_beginLine 83 = .ok (.iconst 3, 1) := by decide +kernel
theorem dX3_beginLine_84 : decode cX3_beginLine 84 = .ok (.invokevirtual 89, 3) := by decide +kernel
theorem dX3_beginLine_87 : decode cX3_beginLine 87 = .ok (.ireturn, 1) := by decide +kernel
set_option maxRecDepth 20000 in
theorem ggX3_beginTelling_X3_go : GoodIn wsX3_beginTelling wsX3_go := goodIn_r _ [6, 7, 8, 9, 10, 11, 12, 13, 14, 15, 16, 17, 18, 19, 20, 21, 22, 23, 24] (by decide +kernel) (by decide +kernel)
set_option maxRecDepth 20000 in
theorem gX3_beginTelling_X3_go : GoodIn wsX3_beginTelling (wsV RX3 89 RX3 yX3_go wsX3_go) := goodIn_app (goodIn_of _ (by decide +kernel)) ggX3_beginTelling_X3_go
theorem dX3_beginTelling_0 : decode cX3_beginTelling 0 = .ok (.aload_n 0, 1) := by decide +kernel
theorem dX3_beginTelling_1 : decode cX3_beginTelling 1 = .ok (.iload_n 1, 1) := by decide +kernel
theorem dX3_beginTelling_2 : decode cX3_beginTelling 2 = .ok (.putfield 147, 3) := by decide +kernel
theorem dX3_beginTelling_5 : decode cX3_beginTelling 5 = .ok (.aload_n 0, 1) := by decide +kernel
theorem dX3_beginTelling_6 : decode cX3_beginTelling 6 = .ok (.iconst 1, 1) := by decide +kernel
theorem dX3_beginTelling_7 : decode cX3_beginTelling 7 = .ok (.invokevirtual 89, 3) := by decide +kernel
theorem dX3_beginTelling_10 : decode cX3_beginTelling 10 = .ok (.ireturn, 1) := by decide +kernel
set_option maxRecDepth 20000 in
theorem ggX3_tellHere_X3_isName : GoodIn wsX3_tellHere wsX3_isName := goodIn_r _ [11, 1, 12, 2, 13, 14, 15, 16, 17, 18, 19, 20, 10, 21, 22, 70, 71, 72, 73, 74, 75, 76, 77, 78, 79, 80, 81, 82, 83, 84, 85, 86, 87, 88, 89, 90, 91, 92, 93] (by decide +kernel) (by decide +kernel)
set_option maxRecDepth 20000 in
theorem gX3_tellHere_X3_isName : GoodIn wsX3_tellHere (wsV RX3 134 RX3 yX3_isName wsX3_isName) := goodIn_app (goodIn_of _ (by decide +kernel)) ggX3_tellHere_X3_isName
set_option maxRecDepth 20000 in
theorem ggX3_tellHere_X3_refuse : GoodIn wsX3_tellHere wsX3_refuse := goodIn_r _ [26, 1, 12, 3, 27, 28, 29, 10, 30, 31, 32, 70, 71, 72, 73, 74, 75, 76, 77, 78, 79, 80, 81, 82, 83, 84, 85, 86, 87, 88, 89, 90, 91, 92, 93] (by decide +kernel) (by decide +kernel)
set_option maxRecDepth 20000 in
theorem gX3_tellHere_X3_refuse : GoodIn wsX3_tellHere (wsV RX3 80 RX3 yX3_refuse wsX3_refuse) := goodIn_app (goodIn_of _ (by decide +kernel)) ggX3_tellHere_X3_refuse
set_option maxRecDepth 20000 in
theorem ggX3_tellHere_X3_tell : GoodIn wsX3_tellHere wsX3_tell := goodIn_r _ [36, 5, 6, 27, 28, 29, 10, 30, 31, 32, 37, 38, 39, 40, 41, 42, 43, 44, 45, 46, 47, 48, 49, 50, 51, 52, 53, 54, 55, 56, 70, 71, 72, 73, 74, 75, 76, 77, 78, 79, 80, 81, 82, 83, 84, 85, 86, 94, 95, 96, 97, 98, 99, 100, 101, 102, 103, 104, 105, 106] (by decide +kernel) (by decide +kernel)
set_option maxRecDepth 20000 in
theorem gX3_tellHere_X3_tell : GoodIn wsX3_tellHere (wsV RX3 150 RX3 yX3_tell wsX3_tell) := goodIn_app (goodIn_of _ (by decide +kernel)) ggX3_tellHere_X3_tell
set_option maxRecDepth 20000 in
theorem ggX3_tellHere_X3_beginParts : GoodIn wsX3_tellHere wsX3_beginParts := goodIn_r _ [60, 61, 62, 63, 64, 65, 66, 67, 10, 68, 69, 70, 71, 72, 73, 74, 75, 76, 77, 78, 79, 80, 81, 82, 83, 84, 85, 86] (by decide +kernel) (by decide +kernel)
set_option maxRecDepth 20000 in
theorem gX3_tellHere_X3_beginParts : GoodIn wsX3_tellHere (wsV RX3 157 RX3 yX3_beginParts wsX3_beginParts) := goodIn_app (goodIn_of _ (by decide +kernel)) ggX3_tellHere_X3_beginParts
set_option maxRecDepth 20000 in
theorem ggX3_tellHere_X3_go : GoodIn wsX3_tellHere wsX3_go := goodIn_r _ [68, 69, 70, 71, 72, 73, 74, 75, 76, 77, 78, 79, 80, 81, 82, 83, 84, 85, 86] (by decide +kernel) (by decide +kernel)
set_option maxRecDepth 20000 in
theorem gX3_tellHere_X3_go : GoodIn wsX3_tellHere (wsV RX3 89 RX3 yX3_go wsX3_go) := goodIn_app (goodIn_of _ (by decide +kernel)) ggX3_tellHere_X3_go
theorem dX3_tellHere_0 : decode cX3_tellHere 0 = .ok (.aload_n 0, 1) := by decide +kernel
theorem dX3_tellHere_1 : decode cX3_tellHere 1 = .ok (.invokevirtual 134, 3) := by decide +kernel
theorem dX3_tellHere_4 : decode cX3_tellHere 4 = .ok (.ifCond .ne 8, 3) := by decide +kernel
theorem dX3_tellHere_7 : decode cX3_tellHere 7 = .ok (.aload_n 0, 1) := by decide +kernel
theorem dX3_tellHere_8 : decode cX3_tellHere 8 = .ok (.invokevirtual 80, 3) := by decide +kernel
theorem dX3_tellHere_11 : decode cX3_tellHere 11 = .ok (.ireturn, 1) := by decide +kernel
theorem dX3_tellHere_12 : decode cX3_tellHere 12 = .ok (.aload_n 0, 1) := by decide +kernel
theorem dX3_tellHere_13 : decode cX3_tellHere 13 = .ok (.aload_n 0, 1) := by decide +kernel
theorem dX3_tellHere_14 : decode cX3_tellHere 14 = .ok (.getfield 18, 3) := by decide +kernel
theorem dX3_tellHere_17 : decode cX3_tellHere 17 = .ok (.getfield 137, 3) := by decide +kernel
theorem dX3_tellHere_20 : decode cX3_tellHere 20 = .ok (.aload_n 0, 1) := by decide +kernel
theorem dX3_tellHere_21 : decode cX3_tellHere 21 = .ok (.getfield 18, 3) := by decide +kernel
theorem dX3_tellHere_24 : decode cX3_tellHere 24 = .ok (.getfield 114, 3) := by decide +kernel
theorem dX3_tellHere_27 : decode cX3_tellHere 27 = .ok (.aload_n 0, 1) := by decide +kernel
theorem dX3_tellHere_28 : decode cX3_tellHere 28 = .ok (.getfield 147, 3) := by decide +kernel
theorem dX3_tellHere_31 : decode cX3_tellHere 31 = .ok (.invokevirtual 150, 3) := by decide +kernel
theorem dX3_tellHere_34 : decode cX3_tellHere 34 = .ok (.ifCond .ne 5, 3) := by decide +kernel
theorem dX3_tellHere_37 : decode cX3_tellHere 37 = .ok (.iconst 0, 1) := by decide +kernel
theorem dX3_tellHere_38 : decode cX3_tellHere 38 = .ok (.ireturn, 1) := by decide +kernel
theorem dX3_tellHere_39 : decode cX3_tellHere 39 = .ok (.aload_n 0, 1) := by decide +kernel
theorem dX3_tellHere_40 : decode cX3_tellHere 40 = .ok (.getfield 147, 3) := by decide +kernel
theorem dX3_tellHere_43 : decode cX3_tellHere 43 = .ok (.iconst 3, 1) := by decide +kernel
theorem dX3_tellHere_44 : decode cX3_tellHere 44 = .ok (.if_icmp .ne 21, 3) := by decide +kernel
theorem dX3_tellHere_47 : decode cX3_tellHere 47 = .ok (.aload_n 0, 1) := by decide +kernel
theorem dX3_tellHere_48 : decode cX3_tellHere 48 = .ok (.aload_n 0, 1) := by decide +kernel
theorem dX3_tellHere_49 : decode cX3_tellHere 49 = .ok (.getfield 36, 3) := by decide +kernel
theorem dX3_tellHere_52 : decode cX3_tellHere 52 = .ok (.getfield 154, 3) := by decide +kernel
theorem dX3_tellHere_55 : decode cX3_tellHere 55 = .ok (.iconst 1, 1) := by decide +kernel
theorem dX3_tellHere_56 : decode cX3_tellHere 56 = .ok (.isub, 1) := by decide +kernel
theorem dX3_tellHere_57 : decode cX3_tellHere 57 = .ok (.iconst 1, 1) := by decide +kernel
theorem dX3_tellHere_58 : decode cX3_tellHere 58 = .ok (.iconst 2, 1) := by decide +kernel
theorem dX3_tellHere_59 : decode cX3_tellHere 59 = .ok (.invokevirtual 157, 3) := by decide +kernel
theorem dX3_tellHere_62 : decode cX3_tellHere 62 = .ok (.goto 8, 3) := by decide +kernel
theorem dX3_tellHere_65 : decode cX3_tellHere 65 = .ok (.aload_n 0, 1) := by decide +kernel
theorem dX3_tellHere_66 : decode cX3_tellHere 66 = .ok (.iconst 2, 1) := by decide +kernel
theorem dX3_tellHere_67 : decode cX3_tellHere 67 = .ok (.invokevirtual 89, 3) := by decide +kernel
theorem dX3_tellHere_70 : decode cX3_tellHere 70 = .ok (.ireturn, 1) := by decide +kernel
set_option maxRecDepth 20000 in
theorem ggX3_tellOrDrive_X3_tell : GoodIn wsX3_tellOrDrive wsX3_tell := goodIn_r _ [10, 11, 12, 13, 14, 15, 9, 16, 17, 18, 19, 20, 21, 22, 23, 24, 25, 26, 27, 28, 29, 30, 31, 32, 33, 34, 35, 36, 37, 38, 59, 60, 61, 62, 63, 64, 65, 66, 67, 68, 69, 70, 71, 72, 73, 74, 75, 83, 84, 85, 86, 87, 88, 89, 90, 91, 92, 93, 94, 95] (by decide +kernel) (by decide +kernel)
set_option maxRecDepth 20000 in
theorem gX3_tellOrDrive_X3_tell : GoodIn wsX3_tellOrDrive (wsV RX3 150 RX3 yX3_tell wsX3_tell) := goodIn_app (goodIn_of _ (by decide +kernel)) ggX3_tellOrDrive_X3_tell
set_option maxRecDepth 20000 in
theorem ggX3_tellOrDrive_X3_go : GoodIn wsX3_tellOrDrive wsX3_go := goodIn_r _ [42, 43, 59, 60, 61, 62, 63, 64, 65, 66, 67, 68, 69, 70, 71, 72, 73, 74, 75] (by decide +kernel) (by decide +kernel)
set_option maxRecDepth 20000 in
theorem gX3_tellOrDrive_X3_go : GoodIn wsX3_tellOrDrive (wsV RX3 89 RX3 yX3_go wsX3_go) := goodIn_app (goodIn_of _ (by decide +kernel)) ggX3_tellOrDrive_X3_go
set_option maxRecDepth 20000 in
theorem ggX3_tellOrDrive_X3_checkDrivers : GoodIn wsX3_tellOrDrive wsX3_checkDrivers := goodIn_r _ [47, 48, 49, 50, 4, 5, 51, 52, 9, 53, 13, 14, 15, 16, 17, 18, 59, 60, 61, 62, 63, 64, 65, 66, 67, 68, 69, 70, 71, 72, 73, 74, 75] (by decide +kernel) (by decide +kernel)
set_option maxRecDepth 20000 in
theorem gX3_tellOrDrive_X3_checkDrivers : GoodIn wsX3_tellOrDrive (wsV RX3 161 RX3 yX3_checkDrivers wsX3_checkDrivers) := goodIn_app (goodIn_of _ (by decide +kernel)) ggX3_tellOrDrive_X3_checkDrivers
set_option maxRecDepth 20000 in
theorem ggX3_tellOrDrive_X3_refuse : GoodIn wsX3_tellOrDrive wsX3_refuse := goodIn_r _ [57, 1, 2, 58, 13, 14, 15, 9, 16, 17, 18, 59, 60, 61, 62, 63, 64, 65, 66, 67, 68, 69, 70, 71, 72, 73, 74, 75, 76, 77, 78, 79, 80, 81, 82] (by decide +kernel) (by decide +kernel)
set_option maxRecDepth 20000 in
theorem gX3_tellOrDrive_X3_refuse : GoodIn wsX3_tellOrDrive (wsV RX3 80 RX3 yX3_refuse wsX3_refuse) := goodIn_app (goodIn_of _ (by decide +kernel)) ggX3_tellOrDrive_X3_refuse
theorem dX3_tellOrDrive_0 : decode cX3_tellOrDrive 0 = .ok (.aload_n 0, 1) := by decide +kernel
theorem dX3_tellOrDrive_1 : decode cX3_tellOrDrive 1 = .ok (.getfield 18, 3) := by decide +kernel
theorem dX3_tellOrDrive_4 : decode cX3_tellOrDrive 4 = .ok (.getfield 74, 3) := by decide +kernel
theorem dX3_tellOrDrive_7 : decode cX3_tellOrDrive 7 = .ok (.bipush 61, 2) := by decide +kernel
theorem dX3_tellOrDrive_9 : decode cX3_tellOrDrive 9 = .ok (.if_icmp .ne 38, 3) := by decide +kernel
theorem dX3_tellOrDrive_12 : decode cX3_tellOrDrive 12 = .ok (.aload_n 0, 1) := by decide +kernel
theorem dX3_tellOrDrive_13 : decode cX3_tellOrDrive 13 = .ok (.iconst 2, 1) := by decide +kernel
theorem dX3_tellOrDrive_14 : decode cX3_tellOrDrive 14 = .ok (.putfield 147, 3) := by decide +kernel
theorem dX3_tellOrDrive_17 : decode cX3_tellOrDrive 17 = .ok (.aload_n 0, 1) := by decide +kernel
theorem dX3_tellOrDrive_18 : decode cX3_tellOrDrive 18 = .ok (.aload_n 0, 1) := by decide +kernel
theorem dX3_tellOrDrive_19 : decode cX3_tellOrDrive 19 = .ok (.getfield 141, 3) := by decide +kernel
theorem dX3_tellOrDrive_22 : decode cX3_tellOrDrive 22 = .ok (.aload_n 0, 1) := by decide +kernel
theorem dX3_tellOrDrive_23 : decode cX3_tellOrDrive 23 = .ok (.getfield 144, 3) := by decide +kernel
theorem dX3_tellOrDrive_26 : decode cX3_tellOrDrive 26 = .ok (.iconst 2, 1) := by decide +kernel
theorem dX3_tellOrDrive_27 : decode cX3_tellOrDrive 27 = .ok (.invokevirtual 150, 3) := by decide +kernel
theorem dX3_tellOrDrive_30 : decode cX3_tellOrDrive 30 = .ok (.ifCond .eq 15, 3) := by decide +kernel
theorem dX3_tellOrDrive_33 : decode cX3_tellOrDrive 33 = .ok (.aload_n 0, 1) := by decide +kernel
theorem dX3_tellOrDrive_34 : decode cX3_tellOrDrive 34 = .ok (.iconst 4, 1) := by decide +kernel
theorem dX3_tellOrDrive_35 : decode cX3_tellOrDrive 35 = .ok (.invokevirtual 89, 3) := by decide +kernel
theorem dX3_tellOrDrive_38 : decode cX3_tellOrDrive 38 = .ok (.ifCond .eq 7, 3) := by decide +kernel
theorem dX3_tellOrDrive_41 : decode cX3_tellOrDrive 41 = .ok (.iconst 1, 1) := by decide +kernel
theorem dX3_tellOrDrive_42 : decode cX3_tellOrDrive 42 = .ok (.goto 4, 3) := by decide +kernel
theorem dX3_tellOrDrive_45 : decode cX3_tellOrDrive 45 = .ok (.iconst 0, 1) := by decide +kernel
theorem dX3_tellOrDrive_46 : decode cX3_tellOrDrive 46 = .ok (.ireturn, 1) := by decide +kernel
theorem dX3_tellOrDrive_47 : decode cX3_tellOrDrive 47 = .ok (.aload_n 0, 1) := by decide +kernel
theorem dX3_tellOrDrive_48 : decode cX3_tellOrDrive 48 = .ok (.getfield 18, 3) := by decide +kernel
theorem dX3_tellOrDrive_51 : decode cX3_tellOrDrive 51 = .ok (.getfield 74, 3) := by decide +kernel
theorem dX3_tellOrDrive_54 : decode cX3_tellOrDrive 54 = .ok (.bipush 60, 2) := by decide +kernel
theorem dX3_tellOrDrive_56 : decode cX3_tellOrDrive 56 = .ok (.if_icmp .ne 29, 3) := by decide +kernel
theorem dX3_tellOrDrive_59 : decode cX3_tellOrDrive 59 = .ok (.aload_n 0, 1) := by decide +kernel
theorem dX3_tellOrDrive_60 : decode cX3_tellOrDrive 60 = .ok (.iconst 4, 1) := by decide +kernel
theorem dX3_tellOrDrive_61 : decode cX3_tellOrDrive 61 = .ok (.putfield 147, 3) := by decide +kernel
theorem dX3_tellOrDrive_64 : decode cX3_tellOrDrive 64 = .ok (.aload_n 0, 1) := by decide +kernel
theorem dX3_tellOrDrive_65 : decode cX3_tellOrDrive 65 = .ok (.invokevirtual 161, 3) := by decide +kernel
theorem dX3_tellOrDrive_68 : decode cX3_tellOrDrive 68 = .ok (.ifCond .eq 15, 3) := by decide +kernel
theorem dX3_tellOrDrive_71 : decode cX3_tellOrDrive 71 = .ok (.aload_n 0, 1) := by decide +kernel
theorem dX3_tellOrDrive_72 : decode cX3_tellOrDrive 72 = .ok (.iconst 5, 1) := by decide +kernel
theorem dX3_tellOrDrive_73 : decode cX3_tellOrDrive 73 = .ok (.invokevirtual 89, 3) := by decide +kernel
theorem dX3_tellOrDrive_76 : decode cX3_tellOrDrive 76 = .ok (.ifCond .eq 7, 3) := by decide +kernel
theorem dX3_tellOrDrive_79 : decode cX3_tellOrDrive 79 = .ok (.iconst 1, 1) := by decide +kernel
theorem dX3_tellOrDrive_80 : decode cX3_tellOrDrive 80 = .ok (.goto 4, 3) := by decide +kernel
theorem dX3_tellOrDrive_83 : decode cX3_tellOrDrive 83 = .ok (.iconst 0, 1) := by decide +kernel
theorem dX3_tellOrDrive_84 : decode cX3_tellOrDrive 84 = .ok (.ireturn, 1) := by decide +kernel
theorem dX3_tellOrDrive_85 : decode cX3_tellOrDrive 85 = .ok (.aload_n 0, 1) := by decide +kernel
theorem dX3_tellOrDrive_86 : decode cX3_tellOrDrive 86 = .ok (.invokevirtual 80, 3) := by decide +kernel
theorem dX3_tellOrDrive_89 : decode cX3_tellOrDrive 89 = .ok (.ireturn, 1) := by decide +kernel
set_option maxRecDepth 20000 in
theorem ggX3_tell_X3_failAt : GoodIn wsX3_tell wsX3_failAt := goodIn_r _ [7, 8, 9, 30, 31, 32, 33, 34, 35, 36, 37, 38, 39, 40, 41, 42, 43, 44, 45, 46] (by decide +kernel) (by decide +kernel)
set_option maxRecDepth 20000 in
theorem gX3_tell_X3_failAt : GoodIn wsX3_tell (wsV RX3 117 RX3 yX3_failAt wsX3_failAt) := goodIn_app (goodIn_of _ (by decide +kernel)) ggX3_tell_X3_failAt
set_option maxRecDepth 20000 in
theorem ggX3_tell_X0_find : GoodIn wsX3_tell wsX0_find := goodIn_r _ [14, 15, 16, 47, 48, 49, 50, 51, 52, 53, 54, 55, 56, 57, 58, 59] (by decide +kernel) (by decide +kernel)
set_option maxRecDepth 20000 in
theorem gX3_tell_X0_find : GoodIn wsX3_tell (wsV RX3 164 RX0 yX0_find wsX0_find) := goodIn_app (goodIn_of _ (by decide +kernel)) ggX3_tell_X0_find
set_option maxRecDepth 20000 in
theorem ggX3_tell_X0_add : GoodIn wsX3_tell wsX0_add := goodIn_r _ [20, 15, 16, 21, 22, 23, 24, 25, 26, 27, 28, 29, 47, 48, 49, 50, 51, 52, 53, 54, 55, 56, 57, 58, 59] (by decide +kernel) (by decide +kernel)
set_option maxRecDepth 20000 in
theorem gX3_tell_X0_add : GoodIn wsX3_tell (wsV RX3 168 RX0 yX0_add wsX0_add) := goodIn_app (goodIn_of _ (by decide +kernel)) ggX3_tell_X0_add
theorem dX3_tell_0 : decode cX3_tell 0 = .ok (.aload_n 0, 1) := by decide +kernel
theorem dX3_tell_1 : decode cX3_tell 1 = .ok (.getfield 36, 3) := by decide +kernel
theorem dX3_tell_4 : decode cX3_tell 4 = .ok (.getfield 154, 3) := by decide +kernel
theorem dX3_tell_7 : decode cX3_tell 7 = .ok (.bipush 60, 2) := by decide +kernel
theorem dX3_tell_9 : decode cX3_tell 9 = .ok (.if_icmp .lt 10, 3) := by decide +kernel
theorem dX3_tell_12 : decode cX3_tell 12 = .ok (.aload_n 0, 1) := by decide +kernel
theorem dX3_tell_13 : decode cX3_tell 13 = .ok (.iconst 2, 1) := by decide +kernel
theorem dX3_tell_14 : decode cX3_tell 14 = .ok (.iload_n 3, 1) := by decide +kernel
theorem dX3_tell_15 : decode cX3_tell 15 = .ok (.invokevirtual 117, 3) := by decide +kernel
theorem dX3_tell_18 : decode cX3_tell 18 = .ok (.ireturn, 1) := by decide +kernel
theorem dX3_tell_19 : decode cX3_tell 19 = .ok (.aload_n 0, 1) := by decide +kernel
theorem dX3_tell_20 : decode cX3_tell 20 = .ok (.getfield 36, 3) := by decide +kernel
theorem dX3_tell_23 : decode cX3_tell 23 = .ok (.lload_n 1, 1) := by decide +kernel
theorem dX3_tell_24 : decode cX3_tell 24 = .ok (.invokevirtual 164, 3) := by decide +kernel
theorem dX3_tell_27 : decode cX3_tell 27 = .ok (.iconst (-1), 1) := by decide +kernel
theorem dX3_tell_28 : decode cX3_tell 28 = .ok (.if_icmp .eq 10, 3) := by decide +kernel
theorem dX3_tell_31 : decode cX3_tell 31 = .ok (.aload_n 0, 1) := by decide +kernel
theorem dX3_tell_32 : decode cX3_tell 32 = .ok (.iconst 3, 1) := by decide +kernel
theorem dX3_tell_33 : decode cX3_tell 33 = .ok (.iload_n 3, 1) := by decide +kernel
theorem dX3_tell_34 : decode cX3_tell 34 = .ok (.invokevirtual 117, 3) := by decide +kernel
theorem dX3_tell_37 : decode cX3_tell 37 = .ok (.ireturn, 1) := by decide +kernel
theorem dX3_tell_38 : decode cX3_tell 38 = .ok (.aload_n 0, 1) := by decide +kernel
theorem dX3_tell_39 : decode cX3_tell 39 = .ok (.getfield 36, 3) := by decide +kernel
theorem dX3_tell_42 : decode cX3_tell 42 = .ok (.lload_n 1, 1) := by decide +kernel
theorem dX3_tell_43 : decode cX3_tell 43 = .ok (.iload_n 3, 1) := by decide +kernel
theorem dX3_tell_44 : decode cX3_tell 44 = .ok (.iload 4, 2) := by decide +kernel
theorem dX3_tell_46 : decode cX3_tell 46 = .ok (.invokevirtual 168, 3) := by decide +kernel
theorem dX3_tell_49 : decode cX3_tell 49 = .ok (.iconst 1, 1) := by decide +kernel
theorem dX3_tell_50 : decode cX3_tell 50 = .ok (.ireturn, 1) := by decide +kernel
set_option maxRecDepth 20000 in
theorem ggX3_checkDrivers_X3_isHead : GoodIn wsX3_checkDrivers wsX3_isHead := goodIn_r _ [9] (by decide +kernel) (by decide +kernel)
set_option maxRecDepth 20000 in
theorem gX3_checkDrivers_X3_isHead : GoodIn wsX3_checkDrivers (va_wsS RX3 172 yX3_isHead wsX3_isHead) := goodIn_app (goodIn_of _ (by decide +kernel)) ggX3_checkDrivers_X3_isHead
set_option maxRecDepth 20000 in
theorem ggX3_checkDrivers_X3_failAt : GoodIn wsX3_checkDrivers wsX3_failAt := goodIn_r _ [13, 14, 15, 16, 17, 18, 19, 20, 21, 22, 23, 24, 25, 26, 27, 28, 29, 30, 31, 32] (by decide +kernel) (by decide +kernel)
set_option maxRecDepth 20000 in
theorem gX3_checkDrivers_X3_failAt : GoodIn wsX3_checkDrivers (wsV RX3 117 RX3 yX3_failAt wsX3_failAt) := goodIn_app (goodIn_of _ (by decide +kernel)) ggX3_checkDrivers_X3_failAt
theorem dX3_checkDrivers_0 : decode cX3_checkDrivers 0 = .ok (.iconst 0, 1) := by decide +kernel
theorem dX3_checkDrivers_1 : decode cX3_checkDrivers 1 = .ok (.istore_n 1, 1) := by decide +kernel
theorem dX3_checkDrivers_2 : decode cX3_checkDrivers 2 = .ok (.iconst 0, 1) := by decide +kernel
theorem dX3_checkDrivers_3 : decode cX3_checkDrivers 3 = .ok (.istore_n 2, 1) := by decide +kernel
theorem dX3_checkDrivers_4 : decode cX3_checkDrivers 4 = .ok (.iload_n 2, 1) := by decide +kernel
theorem dX3_checkDrivers_5 : decode cX3_checkDrivers 5 = .ok (.aload_n 0, 1) := by decide +kernel
theorem dX3_checkDrivers_6 : decode cX3_checkDrivers 6 = .ok (.getfield 48, 3) := by decide +kernel
theorem dX3_checkDrivers_9 : decode cX3_checkDrivers 9 = .ok (.if_icmp .ge 38, 3) := by decide +kernel
theorem dX3_checkDrivers_12 : decode cX3_checkDrivers 12 = .ok (.aload_n 0, 1) := by decide +kernel
theorem dX3_checkDrivers_13 : decode cX3_checkDrivers 13 = .ok (.getfield 30, 3) := by decide +kernel
theorem dX3_checkDrivers_16 : decode cX3_checkDrivers 16 = .ok (.iload_n 2, 1) := by decide +kernel
theorem dX3_checkDrivers_17 : decode cX3_checkDrivers 17 = .ok (.iaload, 1) := by decide +kernel
theorem dX3_checkDrivers_18 : decode cX3_checkDrivers 18 = .ok (.invokestatic 172, 3) := by decide +kernel
theorem dX3_checkDrivers_21 : decode cX3_checkDrivers 21 = .ok (.ifCond .eq 20, 3) := by decide +kernel
theorem dX3_checkDrivers_24 : decode cX3_checkDrivers 24 = .ok (.aload_n 0, 1) := by decide +kernel
theorem dX3_checkDrivers_25 : decode cX3_checkDrivers 25 = .ok (.getfield 22, 3) := by decide +kernel
theorem dX3_checkDrivers_28 : decode cX3_checkDrivers 28 = .ok (.iload_n 2, 1) := by decide +kernel
theorem dX3_checkDrivers_29 : decode cX3_checkDrivers 29 = .ok (.laload, 1) := by decide +kernel
theorem dX3_checkDrivers_30 : decode cX3_checkDrivers 30 = .ok (.aload_n 0, 1) := by decide +kernel
theorem dX3_checkDrivers_31 : decode cX3_checkDrivers 31 = .ok (.getfield 141, 3) := by decide +kernel
theorem dX3_checkDrivers_34 : decode cX3_checkDrivers 34 = .ok (.lcmp, 1) := by decide +kernel
theorem dX3_checkDrivers_35 : decode cX3_checkDrivers 35 = .ok (.ifCond .ne 6, 3) := by decide +kernel
theorem dX3_checkDrivers_38 : decode cX3_checkDrivers 38 = .ok (.iinc 1 1, 3) := by decide +kernel
theorem dX3_checkDrivers_41 : decode cX3_checkDrivers 41 = .ok (.iinc 2 1, 3) := by decide +kernel
theorem dX3_checkDrivers_44 : decode cX3_checkDrivers 44 = .ok (.goto (-40), 3) := by decide +kernel
theorem dX3_checkDrivers_47 : decode cX3_checkDrivers 47 = .ok (.iload_n 1, 1) := by decide +kernel
theorem dX3_checkDrivers_48 : decode cX3_checkDrivers 48 = .ok (.bipush 6, 2) := by decide +kernel
theorem dX3_checkDrivers_50 : decode cX3_checkDrivers 50 = .ok (.if_icmp .lt 15, 3) := by decide +kernel
theorem dX3_checkDrivers_53 : decode cX3_checkDrivers 53 = .ok (.aload_n 0, 1) := by decide +kernel
theorem dX3_checkDrivers_54 : decode cX3_checkDrivers 54 = .ok (.iconst 2, 1) := by decide +kernel
theorem dX3_checkDrivers_55 : decode cX3_checkDrivers 55 = .ok (.aload_n 0, 1) := by decide +kernel
theorem dX3_checkDrivers_56 : decode cX3_checkDrivers 56 = .ok (.getfield 144, 3) := by decide +kernel
theorem dX3_checkDrivers_59 : decode cX3_checkDrivers 59 = .ok (.invokevirtual 117, 3) := by decide +kernel
theorem dX3_checkDrivers_62 : decode cX3_checkDrivers 62 = .ok (.ifCond .eq 7, 3) := by decide +kernel
theorem dX3_checkDrivers_65 : decode cX3_checkDrivers 65 = .ok (.iconst 1, 1) := by decide +kernel
theorem dX3_checkDrivers_66 : decode cX3_checkDrivers 66 = .ok (.goto 4, 3) := by decide +kernel
theorem dX3_checkDrivers_69 : decode cX3_checkDrivers 69 = .ok (.iconst 0, 1) := by decide +kernel
theorem dX3_checkDrivers_70 : decode cX3_checkDrivers 70 = .ok (.ireturn, 1) := by decide +kernel
set_option maxRecDepth 20000 in
theorem ggX3_takeGate_X3_gateHere : GoodIn wsX3_takeGate wsX3_gateHere := goodIn_r _ [10, 11, 12, 13, 14, 45, 46, 47, 48, 49, 50, 51, 52, 53, 54, 55, 56, 57, 58, 59, 60, 61, 75, 76, 77, 78, 79, 80, 81] (by decide +kernel) (by decide +kernel)
set_option maxRecDepth 20000 in
theorem gX3_takeGate_X3_gateHere : GoodIn wsX3_takeGate (wsV RX3 175 RX3 yX3_gateHere wsX3_gateHere) := goodIn_app (goodIn_of _ (by decide +kernel)) ggX3_takeGate_X3_gateHere
set_option maxRecDepth 20000 in
theorem ggX3_takeGate_X0_has : GoodIn wsX3_takeGate wsX0_has := goodIn_r _ [19, 20, 62, 63, 64, 65, 66, 67, 68, 69, 70, 71, 72, 73, 74] (by decide +kernel) (by decide +kernel)
set_option maxRecDepth 20000 in
theorem gX3_takeGate_X0_has : GoodIn wsX3_takeGate (wsV RX3 179 RX0 yX0_has wsX0_has) := goodIn_app (goodIn_of _ (by decide +kernel)) ggX3_takeGate_X0_has
set_option maxRecDepth 20000 in
theorem ggX3_takeGate_X3_refuse : GoodIn wsX3_takeGate wsX3_refuse := goodIn_r _ [24, 12, 13, 25, 26, 27, 28, 9, 29, 30, 31, 45, 46, 47, 48, 49, 50, 51, 52, 53, 54, 55, 56, 57, 58, 59, 60, 61, 75, 76, 77, 78, 79, 80, 81] (by decide +kernel) (by decide +kernel)
set_option maxRecDepth 20000 in
theorem gX3_takeGate_X3_refuse : GoodIn wsX3_takeGate (wsV RX3 80 RX3 yX3_refuse wsX3_refuse) := goodIn_app (goodIn_of _ (by decide +kernel)) ggX3_takeGate_X3_refuse
set_option maxRecDepth 20000 in
theorem ggX3_takeGate_X3_beginParts : GoodIn wsX3_takeGate wsX3_beginParts := goodIn_r _ [35, 36, 37, 38, 39, 40, 41, 42, 9, 43, 44, 45, 46, 47, 48, 49, 50, 51, 52, 53, 54, 55, 56, 57, 58, 59, 60, 61] (by decide +kernel) (by decide +kernel)
set_option maxRecDepth 20000 in
theorem gX3_takeGate_X3_beginParts : GoodIn wsX3_takeGate (wsV RX3 157 RX3 yX3_beginParts wsX3_beginParts) := goodIn_app (goodIn_of _ (by decide +kernel)) ggX3_takeGate_X3_beginParts
theorem dX3_takeGate_0 : decode cX3_takeGate 0 = .ok (.aload_n 0, 1) := by decide +kernel
theorem dX3_takeGate_1 : decode cX3_takeGate 1 = .ok (.getfield 36, 3) := by decide +kernel
theorem dX3_takeGate_4 : decode cX3_takeGate 4 = .ok (.getfield 154, 3) := by decide +kernel
theorem dX3_takeGate_7 : decode cX3_takeGate 7 = .ok (.iconst 1, 1) := by decide +kernel
theorem dX3_takeGate_8 : decode cX3_takeGate 8 = .ok (.isub, 1) := by decide +kernel
theorem dX3_takeGate_9 : decode cX3_takeGate 9 = .ok (.istore_n 1, 1) := by decide +kernel
theorem dX3_takeGate_10 : decode cX3_takeGate 10 = .ok (.aload_n 0, 1) := by decide +kernel
theorem dX3_takeGate_11 : decode cX3_takeGate 11 = .ok (.invokevirtual 175, 3) := by decide +kernel
theorem dX3_takeGate_14 : decode cX3_takeGate 14 = .ok (.istore_n 2, 1) := by decide +kernel
theorem dX3_takeGate_15 : decode cX3_takeGate 15 = .ok (.iload_n 2, 1) := by decide +kernel
theorem dX3_takeGate_16 : decode cX3_takeGate 16 = .ok (.iconst (-1), 1) := by decide +kernel
theorem dX3_takeGate_17 : decode cX3_takeGate 17 = .ok (.if_icmp .eq 14, 3) := by decide +kernel
theorem dX3_takeGate_20 : decode cX3_takeGate 20 = .ok (.aload_n 0, 1) := by decide +kernel
theorem dX3_takeGate_21 : decode cX3_takeGate 21 = .ok (.getfield 36, 3) := by decide +kernel
theorem dX3_takeGate_24 : decode cX3_takeGate 24 = .ok (.iload_n 1, 1) := by decide +kernel
theorem dX3_takeGate_25 : decode cX3_takeGate 25 = .ok (.invokevirtual 179, 3) := by decide +kernel
theorem dX3_takeGate_28 : decode cX3_takeGate 28 = .ok (.ifCond .ne 8, 3) := by decide +kernel
theorem dX3_takeGate_31 : decode cX3_takeGate 31 = .ok (.aload_n 0, 1) := by decide +kernel
theorem dX3_takeGate_32 : decode cX3_takeGate 32 = .ok (.invokevirtual 80, 3) := by decide +kernel
theorem dX3_takeGate_35 : decode cX3_takeGate 35 = .ok (.ireturn, 1) := by decide +kernel
theorem dX3_takeGate_36 : decode cX3_takeGate 36 = .ok (.aload_n 0, 1) := by decide +kernel
theorem dX3_takeGate_37 : decode cX3_takeGate 37 = .ok (.getfield 36, 3) := by decide +kernel
theorem dX3_takeGate_40 : decode cX3_takeGate 40 = .ok (.getfield 182, 3) := by decide +kernel
theorem dX3_takeGate_43 : decode cX3_takeGate 43 = .ok (.iload_n 1, 1) := by decide +kernel
theorem dX3_takeGate_44 : decode cX3_takeGate 44 = .ok (.iload_n 2, 1) := by decide +kernel
theorem dX3_takeGate_45 : decode cX3_takeGate 45 = .ok (.iastore, 1) := by decide +kernel
theorem dX3_takeGate_46 : decode cX3_takeGate 46 = .ok (.aload_n 0, 1) := by decide +kernel
theorem dX3_takeGate_47 : decode cX3_takeGate 47 = .ok (.iload_n 1, 1) := by decide +kernel
theorem dX3_takeGate_48 : decode cX3_takeGate 48 = .ok (.getstatic 185, 3) := by decide +kernel
theorem dX3_takeGate_51 : decode cX3_takeGate 51 = .ok (.iload_n 2, 1) := by decide +kernel
theorem dX3_takeGate_52 : decode cX3_takeGate 52 = .ok (.iaload, 1) := by decide +kernel
theorem dX3_takeGate_53 : decode cX3_takeGate 53 = .ok (.getstatic 188, 3) := by decide +kernel
theorem dX3_takeGate_56 : decode cX3_takeGate 56 = .ok (.iload_n 2, 1) := by decide +kernel
theorem dX3_takeGate_57 : decode cX3_takeGate 57 = .ok (.iaload, 1) := by decide +kernel
theorem dX3_takeGate_58 : decode cX3_takeGate 58 = .ok (.invokevirtual 157, 3) := by decide +kernel
theorem dX3_takeGate_61 : decode cX3_takeGate 61 = .ok (.ireturn, 1) := by decide +kernel
set_option maxRecDepth 20000 in
theorem ggX3_takeDriver_X3_isWord : GoodIn wsX3_takeDriver wsX3_isWord := goodIn_r _ [9, 10, 11, 12, 45, 46, 47, 48, 49, 50, 51, 52, 53, 54, 55, 56, 57, 58, 59, 60, 61, 62, 63, 64, 65, 66, 67, 68] (by decide +kernel) (by decide +kernel)
set_option maxRecDepth 20000 in
theorem gX3_takeDriver_X3_isWord : GoodIn wsX3_takeDriver (wsV RX3 123 RX3 yX3_isWord wsX3_isWord) := goodIn_app (goodIn_of _ (by decide +kernel)) ggX3_takeDriver_X3_isWord
set_option maxRecDepth 20000 in
theorem ggX3_takeDriver_X3_refuse : GoodIn wsX3_takeDriver wsX3_refuse := goodIn_r _ [16, 10, 11, 17, 18, 19, 20, 8, 21, 22, 23, 45, 46, 47, 48, 49, 50, 51, 52, 53, 54, 55, 56, 57, 58, 59, 60, 61, 62, 63, 64, 65, 66, 67, 68] (by decide +kernel) (by decide +kernel)
set_option maxRecDepth 20000 in
theorem gX3_takeDriver_X3_refuse : GoodIn wsX3_takeDriver (wsV RX3 80 RX3 yX3_refuse wsX3_refuse) := goodIn_app (goodIn_of _ (by decide +kernel)) ggX3_takeDriver_X3_refuse
set_option maxRecDepth 20000 in
theorem ggX3_takeDriver_X3_addUse : GoodIn wsX3_takeDriver wsX3_addUse := goodIn_r _ [27, 28, 29, 30, 31, 45, 46, 47, 48, 49, 50, 51, 52, 53, 54, 55, 56, 57, 58, 59, 60, 61] (by decide +kernel) (by decide +kernel)
set_option maxRecDepth 20000 in
theorem gX3_takeDriver_X3_addUse : GoodIn wsX3_takeDriver (wsV RX3 195 RX3 yX3_addUse wsX3_addUse) := goodIn_app (goodIn_of _ (by decide +kernel)) ggX3_takeDriver_X3_addUse
set_option maxRecDepth 20000 in
theorem ggX3_takeDriver_X3_beginParts : GoodIn wsX3_takeDriver wsX3_beginParts := goodIn_r _ [35, 36, 37, 38, 39, 40, 41, 42, 8, 43, 44, 45, 46, 47, 48, 49, 50, 51, 52, 53, 54, 55, 56, 57, 58, 59, 60, 61] (by decide +kernel) (by decide +kernel)
set_option maxRecDepth 20000 in
theorem gX3_takeDriver_X3_beginParts : GoodIn wsX3_takeDriver (wsV RX3 157 RX3 yX3_beginParts wsX3_beginParts) := goodIn_app (goodIn_of _ (by decide +kernel)) ggX3_takeDriver_X3_beginParts
theorem dX3_takeDriver_0 : decode cX3_takeDriver 0 = .ok (.aload_n 0, 1) := by decide +kernel
theorem dX3_takeDriver_1 : decode cX3_takeDriver 1 = .ok (.ldc2_w 191, 3) := by decide +kernel
theorem dX3_takeDriver_4 : decode cX3_takeDriver 4 = .ok (.invokevirtual 123, 3) := by decide +kernel
theorem dX3_takeDriver_7 : decode cX3_takeDriver 7 = .ok (.ifCond .ne 18, 3) := by decide +kernel
theorem dX3_takeDriver_10 : decode cX3_takeDriver 10 = .ok (.aload_n 0, 1) := by decide +kernel
theorem dX3_takeDriver_11 : decode cX3_takeDriver 11 = .ok (.ldc2_w 193, 3) := by decide +kernel
theorem dX3_takeDriver_14 : decode cX3_takeDriver 14 = .ok (.invokevirtual 123, 3) := by decide +kernel
theorem dX3_takeDriver_17 : decode cX3_takeDriver 17 = .ok (.ifCond .ne 8, 3) := by decide +kernel
theorem dX3_takeDriver_20 : decode cX3_takeDriver 20 = .ok (.aload_n 0, 1) := by decide +kernel
theorem dX3_takeDriver_21 : decode cX3_takeDriver 21 = .ok (.invokevirtual 80, 3) := by decide +kernel
theorem dX3_takeDriver_24 : decode cX3_takeDriver 24 = .ok (.ireturn, 1) := by decide +kernel
theorem dX3_takeDriver_25 : decode cX3_takeDriver 25 = .ok (.aload_n 0, 1) := by decide +kernel
theorem dX3_takeDriver_26 : decode cX3_takeDriver 26 = .ok (.aload_n 0, 1) := by decide +kernel
theorem dX3_takeDriver_27 : decode cX3_takeDriver 27 = .ok (.getfield 141, 3) := by decide +kernel
theorem dX3_takeDriver_30 : decode cX3_takeDriver 30 = .ok (.aload_n 0, 1) := by decide +kernel
theorem dX3_takeDriver_31 : decode cX3_takeDriver 31 = .ok (.getfield 144, 3) := by decide +kernel
theorem dX3_takeDriver_34 : decode cX3_takeDriver 34 = .ok (.aload_n 0, 1) := by decide +kernel
theorem dX3_takeDriver_35 : decode cX3_takeDriver 35 = .ok (.ldc2_w 193, 3) := by decide +kernel
theorem dX3_takeDriver_38 : decode cX3_takeDriver 38 = .ok (.invokevirtual 123, 3) := by decide +kernel
theorem dX3_takeDriver_41 : decode cX3_takeDriver 41 = .ok (.ifCond .eq 8, 3) := by decide +kernel
theorem dX3_takeDriver_44 : decode cX3_takeDriver 44 = .ok (.bipush (-2), 2) := by decide +kernel
theorem dX3_takeDriver_46 : decode cX3_takeDriver 46 = .ok (.goto 4, 3) := by decide +kernel
theorem dX3_takeDriver_49 : decode cX3_takeDriver 49 = .ok (.iconst (-1), 1) := by decide +kernel
theorem dX3_takeDriver_50 : decode cX3_takeDriver 50 = .ok (.invokevirtual 195, 3) := by decide +kernel
theorem dX3_takeDriver_53 : decode cX3_takeDriver 53 = .ok (.aload_n 0, 1) := by decide +kernel
theorem dX3_takeDriver_54 : decode cX3_takeDriver 54 = .ok (.bipush (-3), 2) := by decide +kernel
theorem dX3_takeDriver_56 : decode cX3_takeDriver 56 = .ok (.iconst 2, 1) := by decide +kernel
theorem dX3_takeDriver_57 : decode cX3_takeDriver 57 = .ok (.iconst 2, 1) := by decide +kernel
theorem dX3_takeDriver_58 : decode cX3_takeDriver 58 = .ok (.invokevirtual 157, 3) := by decide +kernel
theorem dX3_takeDriver_61 : decode cX3_takeDriver 61 = .ok (.ireturn, 1) := by decide +kernel
set_option maxRecDepth 20000 in
theorem ggX3_beginParts_X3_go : GoodIn wsX3_beginParts wsX3_go := goodIn_r _ [9, 10, 11, 12, 13, 14, 15, 16, 17, 18, 19, 20, 21, 22, 23, 24, 25, 26, 27] (by decide +kernel) (by decide +kernel)
set_option maxRecDepth 20000 in
theorem gX3_beginParts_X3_go : GoodIn wsX3_beginParts (wsV RX3 89 RX3 yX3_go wsX3_go) := goodIn_app (goodIn_of _ (by decide +kernel)) ggX3_beginParts_X3_go
theorem dX3_beginParts_0 : decode cX3_beginParts 0 = .ok (.aload_n 0, 1) := by decide +kernel
theorem dX3_beginParts_1 : decode cX3_beginParts 1 = .ok (.iload_n 1, 1) := by decide +kernel
theorem dX3_beginParts_2 : decode cX3_beginParts 2 = .ok (.putfield 198, 3) := by decide +kernel
theorem dX3_beginParts_5 : decode cX3_beginParts 5 = .ok (.aload_n 0, 1) := by decide +kernel
theorem dX3_beginParts_6 : decode cX3_beginParts 6 = .ok (.iload_n 2, 1) := by decide +kernel
theorem dX3_beginParts_7 : decode cX3_beginParts 7 = .ok (.putfield 201, 3) := by decide +kernel
theorem dX3_beginParts_10 : decode cX3_beginParts 10 = .ok (.aload_n 0, 1) := by decide +kernel
theorem dX3_beginParts_11 : decode cX3_beginParts 11 = .ok (.iload_n 3, 1) := by decide +kernel
theorem dX3_beginParts_12 : decode cX3_beginParts 12 = .ok (.putfield 204, 3) := by decide +kernel
theorem dX3_beginParts_15 : decode cX3_beginParts 15 = .ok (.aload_n 0, 1) := by decide +kernel
