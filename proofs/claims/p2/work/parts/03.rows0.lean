theorem dX0_addPart_0 : decode cX0_addPart 0 = .ok (.aload_n 0, 1) := by decide +kernel
theorem dX0_addPart_1 : decode cX0_addPart 1 = .ok (.iload_n 1, 1) := by decide +kernel
theorem dX0_addPart_10 : decode cX0_addPart 10 = .ok (.invokevirtual 53, 3) := by decide +kernel
theorem dX0_addPart_13 : decode cX0_addPart 13 = .ok (.ifCond .eq 14, 3) := by decide +kernel
theorem dX0_addPart_16 : decode cX0_addPart 16 = .ok (.aload_n 0, 1) := by decide +kernel
theorem dX0_addPart_17 : decode cX0_addPart 17 = .ok (.getfield 31, 3) := by decide +kernel
theorem dX0_addPart_2 : decode cX0_addPart 2 = .ok (.invokevirtual 53, 3) := by decide +kernel
theorem dX0_addPart_20 : decode cX0_addPart 20 = .ok (.iload_n 1, 1) := by decide +kernel
theorem dX0_addPart_21 : decode cX0_addPart 21 = .ok (.iaload, 1) := by decide +kernel
theorem dX0_addPart_22 : decode cX0_addPart 22 = .ok (.bipush 12, 2) := by decide +kernel
theorem dX0_addPart_24 : decode cX0_addPart 24 = .ok (.if_icmp .lt 4, 3) := by decide +kernel
theorem dX0_addPart_27 : decode cX0_addPart 27 = .ok (.return_, 1) := by decide +kernel
theorem dX0_addPart_28 : decode cX0_addPart 28 = .ok (.aload_n 0, 1) := by decide +kernel
theorem dX0_addPart_29 : decode cX0_addPart 29 = .ok (.getfield 28, 3) := by decide +kernel
theorem dX0_addPart_32 : decode cX0_addPart 32 = .ok (.iload_n 1, 1) := by decide +kernel
theorem dX0_addPart_33 : decode cX0_addPart 33 = .ok (.bipush 12, 2) := by decide +kernel
theorem dX0_addPart_35 : decode cX0_addPart 35 = .ok (.imul, 1) := by decide +kernel
theorem dX0_addPart_36 : decode cX0_addPart 36 = .ok (.aload_n 0, 1) := by decide +kernel
theorem dX0_addPart_37 : decode cX0_addPart 37 = .ok (.getfield 31, 3) := by decide +kernel
theorem dX0_addPart_40 : decode cX0_addPart 40 = .ok (.iload_n 1, 1) := by decide +kernel
theorem dX0_addPart_41 : decode cX0_addPart 41 = .ok (.iaload, 1) := by decide +kernel
theorem dX0_addPart_42 : decode cX0_addPart 42 = .ok (.iadd, 1) := by decide +kernel
theorem dX0_addPart_43 : decode cX0_addPart 43 = .ok (.iload_n 2, 1) := by decide +kernel
theorem dX0_addPart_44 : decode cX0_addPart 44 = .ok (.iastore, 1) := by decide +kernel
theorem dX0_addPart_45 : decode cX0_addPart 45 = .ok (.aload_n 0, 1) := by decide +kernel
theorem dX0_addPart_46 : decode cX0_addPart 46 = .ok (.getfield 31, 3) := by decide +kernel
theorem dX0_addPart_49 : decode cX0_addPart 49 = .ok (.iload_n 1, 1) := by decide +kernel
theorem dX0_addPart_5 : decode cX0_addPart 5 = .ok (.ifCond .eq 22, 3) := by decide +kernel
theorem dX0_addPart_50 : decode cX0_addPart 50 = .ok (.dup2, 1) := by decide +kernel
theorem dX0_addPart_51 : decode cX0_addPart 51 = .ok (.iaload, 1) := by decide +kernel
theorem dX0_addPart_52 : decode cX0_addPart 52 = .ok (.iconst 1, 1) := by decide +kernel
theorem dX0_addPart_53 : decode cX0_addPart 53 = .ok (.iadd, 1) := by decide +kernel
theorem dX0_addPart_54 : decode cX0_addPart 54 = .ok (.iastore, 1) := by decide +kernel
theorem dX0_addPart_55 : decode cX0_addPart 55 = .ok (.aload_n 0, 1) := by decide +kernel
theorem dX0_addPart_56 : decode cX0_addPart 56 = .ok (.getfield 19, 3) := by decide +kernel
theorem dX0_addPart_59 : decode cX0_addPart 59 = .ok (.iload_n 1, 1) := by decide +kernel
theorem dX0_addPart_60 : decode cX0_addPart 60 = .ok (.iaload, 1) := by decide +kernel
theorem dX0_addPart_61 : decode cX0_addPart 61 = .ok (.iconst 3, 1) := by decide +kernel
theorem dX0_addPart_62 : decode cX0_addPart 62 = .ok (.if_icmp .eq 15, 3) := by decide +kernel
theorem dX0_addPart_65 : decode cX0_addPart 65 = .ok (.aload_n 0, 1) := by decide +kernel
theorem dX0_addPart_66 : decode cX0_addPart 66 = .ok (.getfield 37, 3) := by decide +kernel
theorem dX0_addPart_69 : decode cX0_addPart 69 = .ok (.iload_n 1, 1) := by decide +kernel
theorem dX0_addPart_70 : decode cX0_addPart 70 = .ok (.dup2, 1) := by decide +kernel
theorem dX0_addPart_71 : decode cX0_addPart 71 = .ok (.laload, 1) := by decide +kernel
theorem dX0_addPart_72 : decode cX0_addPart 72 = .ok (.lconst 1, 1) := by decide +kernel
theorem dX0_addPart_73 : decode cX0_addPart 73 = .ok (.iload_n 2, 1) := by decide +kernel
theorem dX0_addPart_74 : decode cX0_addPart 74 = .ok (.lshl, 1) := by decide +kernel
theorem dX0_addPart_75 : decode cX0_addPart 75 = .ok (.lor, 1) := by decide +kernel
theorem dX0_addPart_76 : decode cX0_addPart 76 = .ok (.lastore, 1) := by decide +kernel
theorem dX0_addPart_77 : decode cX0_addPart 77 = .ok (.return_, 1) := by decide +kernel
theorem dX0_addPart_8 : decode cX0_addPart 8 = .ok (.aload_n 0, 1) := by decide +kernel
theorem dX0_addPart_9 : decode cX0_addPart 9 = .ok (.iload_n 2, 1) := by decide +kernel
theorem dX0_add_0 : decode cX0_add 0 = .ok (.aload_n 0, 1) := by decide +kernel
theorem dX0_add_1 : decode cX0_add 1 = .ok (.getfield 46, 3) := by decide +kernel
theorem dX0_add_10 : decode cX0_add 10 = .ok (.aload_n 0, 1) := by decide +kernel
theorem dX0_add_100 : decode cX0_add 100 = .ok (.lastore, 1) := by decide +kernel
theorem dX0_add_101 : decode cX0_add 101 = .ok (.aload_n 0, 1) := by decide +kernel
theorem dX0_add_102 : decode cX0_add 102 = .ok (.getfield 40, 3) := by decide +kernel
theorem dX0_add_105 : decode cX0_add 105 = .ok (.aload_n 0, 1) := by decide +kernel
theorem dX0_add_106 : decode cX0_add 106 = .ok (.getfield 46, 3) := by decide +kernel
theorem dX0_add_109 : decode cX0_add 109 = .ok (.iconst 0, 1) := by decide +kernel
theorem dX0_add_11 : decode cX0_add 11 = .ok (.getfield 9, 3) := by decide +kernel
theorem dX0_add_110 : decode cX0_add 110 = .ok (.iastore, 1) := by decide +kernel
theorem dX0_add_111 : decode cX0_add 111 = .ok (.iload 4, 2) := by decide +kernel
theorem dX0_add_113 : decode cX0_add 113 = .ok (.iconst 3, 1) := by decide +kernel
theorem dX0_add_114 : decode cX0_add 114 = .ok (.if_icmp .ne 13, 3) := by decide +kernel
theorem dX0_add_117 : decode cX0_add 117 = .ok (.aload_n 0, 1) := by decide +kernel
theorem dX0_add_118 : decode cX0_add 118 = .ok (.dup, 1) := by decide +kernel
theorem dX0_add_119 : decode cX0_add 119 = .ok (.getfield 50, 3) := by decide +kernel
theorem dX0_add_122 : decode cX0_add 122 = .ok (.iconst 1, 1) := by decide +kernel
theorem dX0_add_123 : decode cX0_add 123 = .ok (.iadd, 1) := by decide +kernel
theorem dX0_add_124 : decode cX0_add 124 = .ok (.putfield 50, 3) := by decide +kernel
theorem dX0_add_127 : decode cX0_add 127 = .ok (.aload_n 0, 1) := by decide +kernel
theorem dX0_add_128 : decode cX0_add 128 = .ok (.dup, 1) := by decide +kernel
theorem dX0_add_129 : decode cX0_add 129 = .ok (.getfield 46, 3) := by decide +kernel
theorem dX0_add_132 : decode cX0_add 132 = .ok (.iconst 1, 1) := by decide +kernel
theorem dX0_add_133 : decode cX0_add 133 = .ok (.iadd, 1) := by decide +kernel
theorem dX0_add_134 : decode cX0_add 134 = .ok (.putfield 46, 3) := by decide +kernel
theorem dX0_add_137 : decode cX0_add 137 = .ok (.return_, 1) := by decide +kernel
theorem dX0_add_14 : decode cX0_add 14 = .ok (.aload_n 0, 1) := by decide +kernel
theorem dX0_add_15 : decode cX0_add 15 = .ok (.getfield 46, 3) := by decide +kernel
theorem dX0_add_18 : decode cX0_add 18 = .ok (.lload_n 1, 1) := by decide +kernel
theorem dX0_add_19 : decode cX0_add 19 = .ok (.lastore, 1) := by decide +kernel
theorem dX0_add_20 : decode cX0_add 20 = .ok (.aload_n 0, 1) := by decide +kernel
theorem dX0_add_21 : decode cX0_add 21 = .ok (.getfield 15, 3) := by decide +kernel
theorem dX0_add_24 : decode cX0_add 24 = .ok (.aload_n 0, 1) := by decide +kernel
theorem dX0_add_25 : decode cX0_add 25 = .ok (.getfield 46, 3) := by decide +kernel
theorem dX0_add_28 : decode cX0_add 28 = .ok (.iload_n 3, 1) := by decide +kernel
theorem dX0_add_29 : decode cX0_add 29 = .ok (.iastore, 1) := by decide +kernel
theorem dX0_add_30 : decode cX0_add 30 = .ok (.aload_n 0, 1) := by decide +kernel
theorem dX0_add_31 : decode cX0_add 31 = .ok (.getfield 19, 3) := by decide +kernel
theorem dX0_add_34 : decode cX0_add 34 = .ok (.aload_n 0, 1) := by decide +kernel
theorem dX0_add_35 : decode cX0_add 35 = .ok (.getfield 46, 3) := by decide +kernel
theorem dX0_add_38 : decode cX0_add 38 = .ok (.iload 4, 2) := by decide +kernel
theorem dX0_add_4 : decode cX0_add 4 = .ok (.bipush 60, 2) := by decide +kernel
theorem dX0_add_40 : decode cX0_add 40 = .ok (.iastore, 1) := by decide +kernel
theorem dX0_add_41 : decode cX0_add 41 = .ok (.aload_n 0, 1) := by decide +kernel
theorem dX0_add_42 : decode cX0_add 42 = .ok (.getfield 22, 3) := by decide +kernel
theorem dX0_add_45 : decode cX0_add 45 = .ok (.aload_n 0, 1) := by decide +kernel
theorem dX0_add_46 : decode cX0_add 46 = .ok (.getfield 46, 3) := by decide +kernel
theorem dX0_add_49 : decode cX0_add 49 = .ok (.iconst 0, 1) := by decide +kernel
theorem dX0_add_50 : decode cX0_add 50 = .ok (.iastore, 1) := by decide +kernel
theorem dX0_add_51 : decode cX0_add 51 = .ok (.aload_n 0, 1) := by decide +kernel
theorem dX0_add_52 : decode cX0_add 52 = .ok (.getfield 25, 3) := by decide +kernel
theorem dX0_add_55 : decode cX0_add 55 = .ok (.aload_n 0, 1) := by decide +kernel
theorem dX0_add_56 : decode cX0_add 56 = .ok (.getfield 46, 3) := by decide +kernel
theorem dX0_add_59 : decode cX0_add 59 = .ok (.iload 4, 2) := by decide +kernel
theorem dX0_add_6 : decode cX0_add 6 = .ok (.if_icmp .lt 4, 3) := by decide +kernel
theorem dX0_add_61 : decode cX0_add 61 = .ok (.iconst 2, 1) := by decide +kernel
theorem dX0_add_62 : decode cX0_add 62 = .ok (.if_icmp .ne 7, 3) := by decide +kernel
theorem dX0_add_65 : decode cX0_add 65 = .ok (.iconst 1, 1) := by decide +kernel
theorem dX0_add_66 : decode cX0_add 66 = .ok (.goto 4, 3) := by decide +kernel
theorem dX0_add_69 : decode cX0_add 69 = .ok (.iconst 0, 1) := by decide +kernel
theorem dX0_add_70 : decode cX0_add 70 = .ok (.iastore, 1) := by decide +kernel
theorem dX0_add_71 : decode cX0_add 71 = .ok (.aload_n 0, 1) := by decide +kernel
theorem dX0_add_72 : decode cX0_add 72 = .ok (.getfield 31, 3) := by decide +kernel
theorem dX0_add_75 : decode cX0_add 75 = .ok (.aload_n 0, 1) := by decide +kernel
theorem dX0_add_76 : decode cX0_add 76 = .ok (.getfield 46, 3) := by decide +kernel
theorem dX0_add_79 : decode cX0_add 79 = .ok (.iconst 0, 1) := by decide +kernel
theorem dX0_add_80 : decode cX0_add 80 = .ok (.iastore, 1) := by decide +kernel
theorem dX0_add_81 : decode cX0_add 81 = .ok (.aload_n 0, 1) := by decide +kernel
theorem dX0_add_82 : decode cX0_add 82 = .ok (.getfield 34, 3) := by decide +kernel
theorem dX0_add_85 : decode cX0_add 85 = .ok (.aload_n 0, 1) := by decide +kernel
theorem dX0_add_86 : decode cX0_add 86 = .ok (.getfield 46, 3) := by decide +kernel
theorem dX0_add_89 : decode cX0_add 89 = .ok (.iconst 0, 1) := by decide +kernel
theorem dX0_add_9 : decode cX0_add 9 = .ok (.return_, 1) := by decide +kernel
theorem dX0_add_90 : decode cX0_add 90 = .ok (.iastore, 1) := by decide +kernel
theorem dX0_add_91 : decode cX0_add 91 = .ok (.aload_n 0, 1) := by decide +kernel
theorem dX0_add_92 : decode cX0_add 92 = .ok (.getfield 37, 3) := by decide +kernel
theorem dX0_add_95 : decode cX0_add 95 = .ok (.aload_n 0, 1) := by decide +kernel
theorem dX0_add_96 : decode cX0_add 96 = .ok (.getfield 46, 3) := by decide +kernel
theorem dX0_add_99 : decode cX0_add 99 = .ok (.lconst 0, 1) := by decide +kernel
theorem dX0_arrange_0 : decode cX0_arrange 0 = .ok (.lconst 0, 1) := by decide +kernel
theorem dX0_arrange_1 : decode cX0_arrange 1 = .ok (.lstore_n 1, 1) := by decide +kernel
theorem dX0_arrange_10 : decode cX0_arrange 10 = .ok (.getfield 46, 3) := by decide +kernel
theorem dX0_arrange_100 : decode cX0_arrange 100 = .ok (.getfield 40, 3) := by decide +kernel
theorem dX0_arrange_103 : decode cX0_arrange 103 = .ok (.iload 5, 2) := by decide +kernel
theorem dX0_arrange_105 : decode cX0_arrange 105 = .ok (.aload_n 0, 1) := by decide +kernel
theorem dX0_arrange_106 : decode cX0_arrange 106 = .ok (.aload_n 0, 1) := by decide +kernel
theorem dX0_arrange_107 : decode cX0_arrange 107 = .ok (.getfield 37, 3) := by decide +kernel
theorem dX0_arrange_110 : decode cX0_arrange 110 = .ok (.iload 5, 2) := by decide +kernel
theorem dX0_arrange_112 : decode cX0_arrange 112 = .ok (.laload, 1) := by decide +kernel
theorem dX0_arrange_113 : decode cX0_arrange 113 = .ok (.invokevirtual 71, 3) := by decide +kernel
theorem dX0_arrange_116 : decode cX0_arrange 116 = .ok (.iastore, 1) := by decide +kernel
theorem dX0_arrange_117 : decode cX0_arrange 117 = .ok (.iinc 5 1, 3) := by decide +kernel
theorem dX0_arrange_120 : decode cX0_arrange 120 = .ok (.goto (-93), 3) := by decide +kernel
theorem dX0_arrange_123 : decode cX0_arrange 123 = .ok (.iinc 4 1, 3) := by decide +kernel
theorem dX0_arrange_126 : decode cX0_arrange 126 = .ok (.goto (-119), 3) := by decide +kernel
theorem dX0_arrange_129 : decode cX0_arrange 129 = .ok (.return_, 1) := by decide +kernel
theorem dX0_arrange_13 : decode cX0_arrange 13 = .ok (.if_icmp .ge 116, 3) := by decide +kernel
theorem dX0_arrange_16 : decode cX0_arrange 16 = .ok (.iload_n 3, 1) := by decide +kernel
theorem dX0_arrange_17 : decode cX0_arrange 17 = .ok (.aload_n 0, 1) := by decide +kernel
theorem dX0_arrange_18 : decode cX0_arrange 18 = .ok (.getfield 46, 3) := by decide +kernel
theorem dX0_arrange_2 : decode cX0_arrange 2 = .ok (.iconst 0, 1) := by decide +kernel
theorem dX0_arrange_21 : decode cX0_arrange 21 = .ok (.if_icmp .ge 108, 3) := by decide +kernel
theorem dX0_arrange_24 : decode cX0_arrange 24 = .ok (.iconst 0, 1) := by decide +kernel
theorem dX0_arrange_25 : decode cX0_arrange 25 = .ok (.istore 5, 2) := by decide +kernel
theorem dX0_arrange_27 : decode cX0_arrange 27 = .ok (.iload 5, 2) := by decide +kernel
theorem dX0_arrange_29 : decode cX0_arrange 29 = .ok (.aload_n 0, 1) := by decide +kernel
theorem dX0_arrange_3 : decode cX0_arrange 3 = .ok (.istore_n 3, 1) := by decide +kernel
theorem dX0_arrange_30 : decode cX0_arrange 30 = .ok (.getfield 46, 3) := by decide +kernel
theorem dX0_arrange_33 : decode cX0_arrange 33 = .ok (.if_icmp .ge 90, 3) := by decide +kernel
theorem dX0_arrange_36 : decode cX0_arrange 36 = .ok (.iload_n 3, 1) := by decide +kernel
theorem dX0_arrange_37 : decode cX0_arrange 37 = .ok (.aload_n 0, 1) := by decide +kernel
theorem dX0_arrange_38 : decode cX0_arrange 38 = .ok (.getfield 46, 3) := by decide +kernel
theorem dX0_arrange_4 : decode cX0_arrange 4 = .ok (.iconst 0, 1) := by decide +kernel
theorem dX0_arrange_41 : decode cX0_arrange 41 = .ok (.if_icmp .ge 82, 3) := by decide +kernel
theorem dX0_arrange_44 : decode cX0_arrange 44 = .ok (.lload_n 1, 1) := by decide +kernel
theorem dX0_arrange_45 : decode cX0_arrange 45 = .ok (.iload 5, 2) := by decide +kernel
theorem dX0_arrange_47 : decode cX0_arrange 47 = .ok (.lushr, 1) := by decide +kernel
theorem dX0_arrange_48 : decode cX0_arrange 48 = .ok (.lconst 1, 1) := by decide +kernel
theorem dX0_arrange_49 : decode cX0_arrange 49 = .ok (.land, 1) := by decide +kernel
theorem dX0_arrange_5 : decode cX0_arrange 5 = .ok (.istore 4, 2) := by decide +kernel
theorem dX0_arrange_50 : decode cX0_arrange 50 = .ok (.lconst 1, 1) := by decide +kernel
theorem dX0_arrange_51 : decode cX0_arrange 51 = .ok (.lcmp, 1) := by decide +kernel
theorem dX0_arrange_52 : decode cX0_arrange 52 = .ok (.ifCond .ne 7, 3) := by decide +kernel
theorem dX0_arrange_55 : decode cX0_arrange 55 = .ok (.iconst 1, 1) := by decide +kernel
theorem dX0_arrange_56 : decode cX0_arrange 56 = .ok (.goto 4, 3) := by decide +kernel
theorem dX0_arrange_59 : decode cX0_arrange 59 = .ok (.iconst 0, 1) := by decide +kernel
theorem dX0_arrange_60 : decode cX0_arrange 60 = .ok (.istore 6, 2) := by decide +kernel
theorem dX0_arrange_62 : decode cX0_arrange 62 = .ok (.iload 6, 2) := by decide +kernel
theorem dX0_arrange_64 : decode cX0_arrange 64 = .ok (.ifCond .ne 53, 3) := by decide +kernel
theorem dX0_arrange_67 : decode cX0_arrange 67 = .ok (.aload_n 0, 1) := by decide +kernel
theorem dX0_arrange_68 : decode cX0_arrange 68 = .ok (.iload 5, 2) := by decide +kernel
theorem dX0_arrange_7 : decode cX0_arrange 7 = .ok (.iload 4, 2) := by decide +kernel
theorem dX0_arrange_70 : decode cX0_arrange 70 = .ok (.lload_n 1, 1) := by decide +kernel
theorem dX0_arrange_71 : decode cX0_arrange 71 = .ok (.ldc2_w 65, 3) := by decide +kernel
theorem dX0_arrange_74 : decode cX0_arrange 74 = .ok (.lxor, 1) := by decide +kernel
theorem dX0_arrange_75 : decode cX0_arrange 75 = .ok (.invokevirtual 67, 3) := by decide +kernel
theorem dX0_arrange_78 : decode cX0_arrange 78 = .ok (.ifCond .ne 39, 3) := by decide +kernel
theorem dX0_arrange_81 : decode cX0_arrange 81 = .ok (.aload_n 0, 1) := by decide +kernel
theorem dX0_arrange_82 : decode cX0_arrange 82 = .ok (.getfield 43, 3) := by decide +kernel
theorem dX0_arrange_85 : decode cX0_arrange 85 = .ok (.iload_n 3, 1) := by decide +kernel
theorem dX0_arrange_86 : decode cX0_arrange 86 = .ok (.iload 5, 2) := by decide +kernel
theorem dX0_arrange_88 : decode cX0_arrange 88 = .ok (.iastore, 1) := by decide +kernel
theorem dX0_arrange_89 : decode cX0_arrange 89 = .ok (.iinc 3 1, 3) := by decide +kernel
theorem dX0_arrange_9 : decode cX0_arrange 9 = .ok (.aload_n 0, 1) := by decide +kernel
theorem dX0_arrange_92 : decode cX0_arrange 92 = .ok (.lload_n 1, 1) := by decide +kernel
theorem dX0_arrange_93 : decode cX0_arrange 93 = .ok (.lconst 1, 1) := by decide +kernel
theorem dX0_arrange_94 : decode cX0_arrange 94 = .ok (.iload 5, 2) := by decide +kernel
theorem dX0_arrange_96 : decode cX0_arrange 96 = .ok (.lshl, 1) := by decide +kernel
theorem dX0_arrange_97 : decode cX0_arrange 97 = .ok (.lor, 1) := by decide +kernel
theorem dX0_arrange_98 : decode cX0_arrange 98 = .ok (.lstore_n 1, 1) := by decide +kernel
theorem dX0_arrange_99 : decode cX0_arrange 99 = .ok (.aload_n 0, 1) := by decide +kernel
theorem dX0_beginDriver_0 : decode cX0_beginDriver 0 = .ok (.aload_n 0, 1) := by decide +kernel
theorem dX0_beginDriver_1 : decode cX0_beginDriver 1 = .ok (.iload_n 1, 1) := by decide +kernel
theorem dX0_beginDriver_12 : decode cX0_beginDriver 12 = .ok (.aload_n 0, 1) := by decide +kernel
theorem dX0_beginDriver_13 : decode cX0_beginDriver 13 = .ok (.getfield 34, 3) := by decide +kernel
theorem dX0_beginDriver_16 : decode cX0_beginDriver 16 = .ok (.iload_n 1, 1) := by decide +kernel
theorem dX0_beginDriver_17 : decode cX0_beginDriver 17 = .ok (.dup2, 1) := by decide +kernel
theorem dX0_beginDriver_18 : decode cX0_beginDriver 18 = .ok (.iaload, 1) := by decide +kernel
theorem dX0_beginDriver_19 : decode cX0_beginDriver 19 = .ok (.iconst 1, 1) := by decide +kernel
theorem dX0_beginDriver_2 : decode cX0_beginDriver 2 = .ok (.invokevirtual 53, 3) := by decide +kernel
theorem dX0_beginDriver_20 : decode cX0_beginDriver 20 = .ok (.aload_n 0, 1) := by decide +kernel
theorem dX0_beginDriver_21 : decode cX0_beginDriver 21 = .ok (.iload_n 1, 1) := by decide +kernel
theorem dX0_beginDriver_22 : decode cX0_beginDriver 22 = .ok (.invokevirtual 61, 3) := by decide +kernel
theorem dX0_beginDriver_25 : decode cX0_beginDriver 25 = .ok (.ishl, 1) := by decide +kernel
theorem dX0_beginDriver_26 : decode cX0_beginDriver 26 = .ok (.ior, 1) := by decide +kernel
theorem dX0_beginDriver_27 : decode cX0_beginDriver 27 = .ok (.iastore, 1) := by decide +kernel
theorem dX0_beginDriver_28 : decode cX0_beginDriver 28 = .ok (.return_, 1) := by decide +kernel
theorem dX0_beginDriver_5 : decode cX0_beginDriver 5 = .ok (.ifCond .eq 23, 3) := by decide +kernel
theorem dX0_beginDriver_8 : decode cX0_beginDriver 8 = .ok (.iload_n 2, 1) := by decide +kernel
theorem dX0_beginDriver_9 : decode cX0_beginDriver 9 = .ok (.ifCond .eq 19, 3) := by decide +kernel
theorem dX0_clear_0 : decode cX0_clear 0 = .ok (.aload_n 0, 1) := by decide +kernel
theorem dX0_clear_1 : decode cX0_clear 1 = .ok (.iconst 0, 1) := by decide +kernel
theorem dX0_clear_10 : decode cX0_clear 10 = .ok (.return_, 1) := by decide +kernel
theorem dX0_clear_2 : decode cX0_clear 2 = .ok (.putfield 46, 3) := by decide +kernel
theorem dX0_clear_5 : decode cX0_clear 5 = .ok (.aload_n 0, 1) := by decide +kernel
theorem dX0_clear_6 : decode cX0_clear 6 = .ok (.iconst 0, 1) := by decide +kernel
theorem dX0_clear_7 : decode cX0_clear 7 = .ok (.putfield 50, 3) := by decide +kernel
theorem dX0_dependsOn_0 : decode cX0_dependsOn 0 = .ok (.aload_n 0, 1) := by decide +kernel
theorem dX0_dependsOn_1 : decode cX0_dependsOn 1 = .ok (.getfield 37, 3) := by decide +kernel
theorem dX0_dependsOn_10 : decode cX0_dependsOn 10 = .ok (.ifCond .eq 7, 3) := by decide +kernel
theorem dX0_dependsOn_13 : decode cX0_dependsOn 13 = .ok (.iconst 1, 1) := by decide +kernel
theorem dX0_dependsOn_14 : decode cX0_dependsOn 14 = .ok (.goto 4, 3) := by decide +kernel
theorem dX0_dependsOn_17 : decode cX0_dependsOn 17 = .ok (.iconst 0, 1) := by decide +kernel
theorem dX0_dependsOn_18 : decode cX0_dependsOn 18 = .ok (.ireturn, 1) := by decide +kernel
theorem dX0_dependsOn_4 : decode cX0_dependsOn 4 = .ok (.iload_n 1, 1) := by decide +kernel
theorem dX0_dependsOn_5 : decode cX0_dependsOn 5 = .ok (.laload, 1) := by decide +kernel
theorem dX0_dependsOn_6 : decode cX0_dependsOn 6 = .ok (.lload_n 2, 1) := by decide +kernel
theorem dX0_dependsOn_7 : decode cX0_dependsOn 7 = .ok (.land, 1) := by decide +kernel
theorem dX0_dependsOn_8 : decode cX0_dependsOn 8 = .ok (.lconst 0, 1) := by decide +kernel
theorem dX0_dependsOn_9 : decode cX0_dependsOn 9 = .ok (.lcmp, 1) := by decide +kernel
theorem dX0_find_0 : decode cX0_find 0 = .ok (.iconst 0, 1) := by decide +kernel
theorem dX0_find_1 : decode cX0_find 1 = .ok (.istore_n 3, 1) := by decide +kernel
theorem dX0_find_10 : decode cX0_find 10 = .ok (.aload_n 0, 1) := by decide +kernel
theorem dX0_find_11 : decode cX0_find 11 = .ok (.getfield 9, 3) := by decide +kernel
theorem dX0_find_14 : decode cX0_find 14 = .ok (.iload_n 3, 1) := by decide +kernel
theorem dX0_find_15 : decode cX0_find 15 = .ok (.laload, 1) := by decide +kernel
theorem dX0_find_16 : decode cX0_find 16 = .ok (.lload_n 1, 1) := by decide +kernel
theorem dX0_find_17 : decode cX0_find 17 = .ok (.lcmp, 1) := by decide +kernel
theorem dX0_find_18 : decode cX0_find 18 = .ok (.ifCond .ne 5, 3) := by decide +kernel
theorem dX0_find_2 : decode cX0_find 2 = .ok (.iload_n 3, 1) := by decide +kernel
theorem dX0_find_21 : decode cX0_find 21 = .ok (.iload_n 3, 1) := by decide +kernel
theorem dX0_find_22 : decode cX0_find 22 = .ok (.ireturn, 1) := by decide +kernel
theorem dX0_find_23 : decode cX0_find 23 = .ok (.iinc 3 1, 3) := by decide +kernel
theorem dX0_find_26 : decode cX0_find 26 = .ok (.goto (-24), 3) := by decide +kernel
theorem dX0_find_29 : decode cX0_find 29 = .ok (.iconst (-1), 1) := by decide +kernel
theorem dX0_find_3 : decode cX0_find 3 = .ok (.aload_n 0, 1) := by decide +kernel
theorem dX0_find_30 : decode cX0_find 30 = .ok (.ireturn, 1) := by decide +kernel
theorem dX0_find_4 : decode cX0_find 4 = .ok (.getfield 46, 3) := by decide +kernel
theorem dX0_find_7 : decode cX0_find 7 = .ok (.if_icmp .ge 22, 3) := by decide +kernel
theorem dX0_has_0 : decode cX0_has 0 = .ok (.iload_n 1, 1) := by decide +kernel
theorem dX0_has_1 : decode cX0_has 1 = .ok (.ifCond .lt 15, 3) := by decide +kernel
theorem dX0_has_12 : decode cX0_has 12 = .ok (.iconst 1, 1) := by decide +kernel
theorem dX0_has_13 : decode cX0_has 13 = .ok (.goto 4, 3) := by decide +kernel
theorem dX0_has_16 : decode cX0_has 16 = .ok (.iconst 0, 1) := by decide +kernel
theorem dX0_has_17 : decode cX0_has 17 = .ok (.ireturn, 1) := by decide +kernel
theorem dX0_has_4 : decode cX0_has 4 = .ok (.iload_n 1, 1) := by decide +kernel
theorem dX0_has_5 : decode cX0_has 5 = .ok (.aload_n 0, 1) := by decide +kernel
theorem dX0_has_6 : decode cX0_has 6 = .ok (.getfield 46, 3) := by decide +kernel
theorem dX0_has_9 : decode cX0_has 9 = .ok (.if_icmp .ge 7, 3) := by decide +kernel
theorem dX0_isKind_0 : decode cX0_isKind 0 = .ok (.aload_n 0, 1) := by decide +kernel
theorem dX0_isKind_1 : decode cX0_isKind 1 = .ok (.iload_n 1, 1) := by decide +kernel
theorem dX0_isKind_12 : decode cX0_isKind 12 = .ok (.iload_n 1, 1) := by decide +kernel
theorem dX0_isKind_13 : decode cX0_isKind 13 = .ok (.iaload, 1) := by decide +kernel
theorem dX0_isKind_14 : decode cX0_isKind 14 = .ok (.iload_n 2, 1) := by decide +kernel
theorem dX0_isKind_15 : decode cX0_isKind 15 = .ok (.if_icmp .ne 7, 3) := by decide +kernel
theorem dX0_isKind_18 : decode cX0_isKind 18 = .ok (.iconst 1, 1) := by decide +kernel
theorem dX0_isKind_19 : decode cX0_isKind 19 = .ok (.goto 4, 3) := by decide +kernel
theorem dX0_isKind_2 : decode cX0_isKind 2 = .ok (.invokevirtual 53, 3) := by decide +kernel
theorem dX0_isKind_22 : decode cX0_isKind 22 = .ok (.iconst 0, 1) := by decide +kernel
theorem dX0_isKind_23 : decode cX0_isKind 23 = .ok (.ireturn, 1) := by decide +kernel
theorem dX0_isKind_5 : decode cX0_isKind 5 = .ok (.ifCond .eq 17, 3) := by decide +kernel
theorem dX0_isKind_8 : decode cX0_isKind 8 = .ok (.aload_n 0, 1) := by decide +kernel
theorem dX0_isKind_9 : decode cX0_isKind 9 = .ok (.getfield 19, 3) := by decide +kernel
theorem dX0_isLow_0 : decode cX0_isLow 0 = .ok (.aload_n 0, 1) := by decide +kernel
theorem dX0_isLow_1 : decode cX0_isLow 1 = .ok (.getfield 34, 3) := by decide +kernel
theorem dX0_isLow_10 : decode cX0_isLow 10 = .ok (.iconst 1, 1) := by decide +kernel
theorem dX0_isLow_11 : decode cX0_isLow 11 = .ok (.if_icmp .ne 7, 3) := by decide +kernel
theorem dX0_isLow_14 : decode cX0_isLow 14 = .ok (.iconst 1, 1) := by decide +kernel
theorem dX0_isLow_15 : decode cX0_isLow 15 = .ok (.goto 4, 3) := by decide +kernel
theorem dX0_isLow_18 : decode cX0_isLow 18 = .ok (.iconst 0, 1) := by decide +kernel
theorem dX0_isLow_19 : decode cX0_isLow 19 = .ok (.ireturn, 1) := by decide +kernel
theorem dX0_isLow_4 : decode cX0_isLow 4 = .ok (.iload_n 1, 1) := by decide +kernel
theorem dX0_isLow_5 : decode cX0_isLow 5 = .ok (.iaload, 1) := by decide +kernel
theorem dX0_isLow_6 : decode cX0_isLow 6 = .ok (.iload_n 2, 1) := by decide +kernel
theorem dX0_isLow_7 : decode cX0_isLow 7 = .ok (.ishr, 1) := by decide +kernel
theorem dX0_isLow_8 : decode cX0_isLow 8 = .ok (.iconst 1, 1) := by decide +kernel
theorem dX0_isLow_9 : decode cX0_isLow 9 = .ok (.iand, 1) := by decide +kernel
theorem dX0_isSource_0 : decode cX0_isSource 0 = .ok (.aload_n 0, 1) := by decide +kernel
theorem dX0_isSource_1 : decode cX0_isSource 1 = .ok (.iload_n 1, 1) := by decide +kernel
theorem dX0_isSource_10 : decode cX0_isSource 10 = .ok (.iload_n 1, 1) := by decide +kernel
theorem dX0_isSource_11 : decode cX0_isSource 11 = .ok (.iconst 3, 1) := by decide +kernel
theorem dX0_isSource_12 : decode cX0_isSource 12 = .ok (.invokevirtual 57, 3) := by decide +kernel
theorem dX0_isSource_15 : decode cX0_isSource 15 = .ok (.ifCond .eq 7, 3) := by decide +kernel
theorem dX0_isSource_18 : decode cX0_isSource 18 = .ok (.iconst 1, 1) := by decide +kernel
theorem dX0_isSource_19 : decode cX0_isSource 19 = .ok (.goto 4, 3) := by decide +kernel
theorem dX0_isSource_2 : decode cX0_isSource 2 = .ok (.iconst 0, 1) := by decide +kernel
theorem dX0_isSource_22 : decode cX0_isSource 22 = .ok (.iconst 0, 1) := by decide +kernel
theorem dX0_isSource_23 : decode cX0_isSource 23 = .ok (.ireturn, 1) := by decide +kernel
theorem dX0_isSource_3 : decode cX0_isSource 3 = .ok (.invokevirtual 57, 3) := by decide +kernel
theorem dX0_isSource_6 : decode cX0_isSource 6 = .ok (.ifCond .ne 12, 3) := by decide +kernel
theorem dX0_isSource_9 : decode cX0_isSource 9 = .ok (.aload_n 0, 1) := by decide +kernel
theorem dX0_levelAbove_0 : decode cX0_levelAbove 0 = .ok (.iconst 0, 1) := by decide +kernel
theorem dX0_levelAbove_1 : decode cX0_levelAbove 1 = .ok (.istore_n 3, 1) := by decide +kernel
theorem dX0_levelAbove_11 : decode cX0_levelAbove 11 = .ok (.if_icmp .ge 34, 3) := by decide +kernel
theorem dX0_levelAbove_14 : decode cX0_levelAbove 14 = .ok (.lload_n 1, 1) := by decide +kernel
theorem dX0_levelAbove_15 : decode cX0_levelAbove 15 = .ok (.iload 4, 2) := by decide +kernel
theorem dX0_levelAbove_17 : decode cX0_levelAbove 17 = .ok (.lushr, 1) := by decide +kernel
theorem dX0_levelAbove_18 : decode cX0_levelAbove 18 = .ok (.lconst 1, 1) := by decide +kernel
theorem dX0_levelAbove_19 : decode cX0_levelAbove 19 = .ok (.land, 1) := by decide +kernel
theorem dX0_levelAbove_2 : decode cX0_levelAbove 2 = .ok (.iconst 0, 1) := by decide +kernel
theorem dX0_levelAbove_20 : decode cX0_levelAbove 20 = .ok (.lconst 1, 1) := by decide +kernel
theorem dX0_levelAbove_21 : decode cX0_levelAbove 21 = .ok (.lcmp, 1) := by decide +kernel
theorem dX0_levelAbove_22 : decode cX0_levelAbove 22 = .ok (.ifCond .ne 17, 3) := by decide +kernel
theorem dX0_levelAbove_25 : decode cX0_levelAbove 25 = .ok (.iload_n 3, 1) := by decide +kernel
theorem dX0_levelAbove_26 : decode cX0_levelAbove 26 = .ok (.aload_n 0, 1) := by decide +kernel
theorem dX0_levelAbove_27 : decode cX0_levelAbove 27 = .ok (.getfield 40, 3) := by decide +kernel
theorem dX0_levelAbove_3 : decode cX0_levelAbove 3 = .ok (.istore 4, 2) := by decide +kernel
theorem dX0_levelAbove_30 : decode cX0_levelAbove 30 = .ok (.iload 4, 2) := by decide +kernel
theorem dX0_levelAbove_32 : decode cX0_levelAbove 32 = .ok (.iaload, 1) := by decide +kernel
theorem dX0_levelAbove_33 : decode cX0_levelAbove 33 = .ok (.iconst 1, 1) := by decide +kernel
theorem dX0_levelAbove_34 : decode cX0_levelAbove 34 = .ok (.iadd, 1) := by decide +kernel
theorem dX0_levelAbove_35 : decode cX0_levelAbove 35 = .ok (.invokestatic 75, 3) := by decide +kernel
theorem dX0_levelAbove_38 : decode cX0_levelAbove 38 = .ok (.istore_n 3, 1) := by decide +kernel
theorem dX0_levelAbove_39 : decode cX0_levelAbove 39 = .ok (.iinc 4 1, 3) := by decide +kernel
theorem dX0_levelAbove_42 : decode cX0_levelAbove 42 = .ok (.goto (-37), 3) := by decide +kernel
theorem dX0_levelAbove_45 : decode cX0_levelAbove 45 = .ok (.iload_n 3, 1) := by decide +kernel
theorem dX0_levelAbove_46 : decode cX0_levelAbove 46 = .ok (.ireturn, 1) := by decide +kernel
theorem dX0_levelAbove_5 : decode cX0_levelAbove 5 = .ok (.iload 4, 2) := by decide +kernel
theorem dX0_levelAbove_7 : decode cX0_levelAbove 7 = .ok (.aload_n 0, 1) := by decide +kernel
theorem dX0_levelAbove_8 : decode cX0_levelAbove 8 = .ok (.getfield 46, 3) := by decide +kernel
theorem dX0_part_0 : decode cX0_part 0 = .ok (.aload_n 0, 1) := by decide +kernel
theorem dX0_part_1 : decode cX0_part 1 = .ok (.getfield 28, 3) := by decide +kernel
theorem dX0_part_10 : decode cX0_part 10 = .ok (.iaload, 1) := by decide +kernel
theorem dX0_part_11 : decode cX0_part 11 = .ok (.ireturn, 1) := by decide +kernel
theorem dX0_part_4 : decode cX0_part 4 = .ok (.iload_n 1, 1) := by decide +kernel
theorem dX0_part_5 : decode cX0_part 5 = .ok (.bipush 12, 2) := by decide +kernel
theorem dX0_part_7 : decode cX0_part 7 = .ok (.imul, 1) := by decide +kernel
theorem dX0_part_8 : decode cX0_part 8 = .ok (.iload_n 2, 1) := by decide +kernel
theorem dX0_part_9 : decode cX0_part 9 = .ok (.iadd, 1) := by decide +kernel
theorem dX0_size_0 : decode cX0_size 0 = .ok (.aload_n 0, 1) := by decide +kernel
theorem dX0_size_1 : decode cX0_size 1 = .ok (.getfield 19, 3) := by decide +kernel
theorem dX0_size_10 : decode cX0_size 10 = .ok (.aload_n 0, 1) := by decide +kernel
theorem dX0_size_11 : decode cX0_size 11 = .ok (.getfield 31, 3) := by decide +kernel
theorem dX0_size_14 : decode cX0_size 14 = .ok (.iload_n 1, 1) := by decide +kernel
theorem dX0_size_15 : decode cX0_size 15 = .ok (.iaload, 1) := by decide +kernel
theorem dX0_size_16 : decode cX0_size 16 = .ok (.iconst 2, 1) := by decide +kernel
theorem dX0_size_17 : decode cX0_size 17 = .ok (.idiv, 1) := by decide +kernel
theorem dX0_size_18 : decode cX0_size 18 = .ok (.goto 9, 3) := by decide +kernel
theorem dX0_size_21 : decode cX0_size 21 = .ok (.aload_n 0, 1) := by decide +kernel
theorem dX0_size_22 : decode cX0_size 22 = .ok (.getfield 31, 3) := by decide +kernel
theorem dX0_size_25 : decode cX0_size 25 = .ok (.iload_n 1, 1) := by decide +kernel
theorem dX0_size_26 : decode cX0_size 26 = .ok (.iaload, 1) := by decide +kernel
theorem dX0_size_27 : decode cX0_size 27 = .ok (.ireturn, 1) := by decide +kernel
theorem dX0_size_4 : decode cX0_size 4 = .ok (.iload_n 1, 1) := by decide +kernel
theorem dX0_size_5 : decode cX0_size 5 = .ok (.iaload, 1) := by decide +kernel
theorem dX0_size_6 : decode cX0_size 6 = .ok (.iconst 1, 1) := by decide +kernel
theorem dX0_size_7 : decode cX0_size 7 = .ok (.if_icmp .ne 14, 3) := by decide +kernel
theorem dX1_advance_0 : decode cX1_advance 0 = .ok (.aload_n 0, 1) := by decide +kernel
theorem dX1_advance_1 : decode cX1_advance 1 = .ok (.getfield 23, 3) := by decide +kernel
theorem dX1_advance_102 : decode cX1_advance 102 = .ok (.aload_n 0, 1) := by decide +kernel
theorem dX1_advance_103 : decode cX1_advance 103 = .ok (.iload_n 1, 1) := by decide +kernel
theorem dX1_advance_104 : decode cX1_advance 104 = .ok (.invokestatic 48, 3) := by decide +kernel
theorem dX1_advance_107 : decode cX1_advance 107 = .ok (.ifCond .eq 7, 3) := by decide +kernel
theorem dX1_advance_11 : decode cX1_advance 11 = .ok (.aload_n 0, 1) := by decide +kernel
theorem dX1_advance_110 : decode cX1_advance 110 = .ok (.iload_n 1, 1) := by decide +kernel
theorem dX1_advance_111 : decode cX1_advance 111 = .ok (.goto 4, 3) := by decide +kernel
theorem dX1_advance_114 : decode cX1_advance 114 = .ok (.iconst 0, 1) := by decide +kernel
theorem dX1_advance_115 : decode cX1_advance 115 = .ok (.putfield 33, 3) := by decide +kernel
theorem dX1_advance_118 : decode cX1_advance 118 = .ok (.aload_n 0, 1) := by decide +kernel
theorem dX1_advance_119 : decode cX1_advance 119 = .ok (.dup, 1) := by decide +kernel
theorem dX1_advance_12 : decode cX1_advance 12 = .ok (.getfield 7, 3) := by decide +kernel
theorem dX1_advance_120 : decode cX1_advance 120 = .ok (.getfield 23, 3) := by decide +kernel
theorem dX1_advance_123 : decode cX1_advance 123 = .ok (.iconst 1, 1) := by decide +kernel
theorem dX1_advance_124 : decode cX1_advance 124 = .ok (.iadd, 1) := by decide +kernel
theorem dX1_advance_125 : decode cX1_advance 125 = .ok (.putfield 23, 3) := by decide +kernel
theorem dX1_advance_128 : decode cX1_advance 128 = .ok (.return_, 1) := by decide +kernel
theorem dX1_advance_15 : decode cX1_advance 15 = .ok (.aload_n 0, 1) := by decide +kernel
theorem dX1_advance_16 : decode cX1_advance 16 = .ok (.getfield 23, 3) := by decide +kernel
theorem dX1_advance_19 : decode cX1_advance 19 = .ok (.baload, 1) := by decide +kernel
theorem dX1_advance_20 : decode cX1_advance 20 = .ok (.invokestatic 26, 3) := by decide +kernel
theorem dX1_advance_23 : decode cX1_advance 23 = .ok (.ifCond .eq 16, 3) := by decide +kernel
theorem dX1_advance_26 : decode cX1_advance 26 = .ok (.aload_n 0, 1) := by decide +kernel
theorem dX1_advance_27 : decode cX1_advance 27 = .ok (.dup, 1) := by decide +kernel
theorem dX1_advance_28 : decode cX1_advance 28 = .ok (.getfield 23, 3) := by decide +kernel
theorem dX1_advance_31 : decode cX1_advance 31 = .ok (.iconst 1, 1) := by decide +kernel
theorem dX1_advance_32 : decode cX1_advance 32 = .ok (.iadd, 1) := by decide +kernel
theorem dX1_advance_33 : decode cX1_advance 33 = .ok (.putfield 23, 3) := by decide +kernel
theorem dX1_advance_36 : decode cX1_advance 36 = .ok (.goto (-36), 3) := by decide +kernel
theorem dX1_advance_39 : decode cX1_advance 39 = .ok (.aload_n 0, 1) := by decide +kernel
theorem dX1_advance_4 : decode cX1_advance 4 = .ok (.aload_n 0, 1) := by decide +kernel
theorem dX1_advance_40 : decode cX1_advance 40 = .ok (.aload_n 0, 1) := by decide +kernel
theorem dX1_advance_41 : decode cX1_advance 41 = .ok (.getfield 23, 3) := by decide +kernel
theorem dX1_advance_44 : decode cX1_advance 44 = .ok (.putfield 30, 3) := by decide +kernel
theorem dX1_advance_47 : decode cX1_advance 47 = .ok (.aload_n 0, 1) := by decide +kernel
theorem dX1_advance_48 : decode cX1_advance 48 = .ok (.getfield 23, 3) := by decide +kernel
theorem dX1_advance_5 : decode cX1_advance 5 = .ok (.getfield 19, 3) := by decide +kernel
theorem dX1_advance_51 : decode cX1_advance 51 = .ok (.aload_n 0, 1) := by decide +kernel
theorem dX1_advance_52 : decode cX1_advance 52 = .ok (.getfield 19, 3) := by decide +kernel
theorem dX1_advance_55 : decode cX1_advance 55 = .ok (.if_icmp .lt 9, 3) := by decide +kernel
theorem dX1_advance_58 : decode cX1_advance 58 = .ok (.aload_n 0, 1) := by decide +kernel
theorem dX1_advance_59 : decode cX1_advance 59 = .ok (.iconst 1, 1) := by decide +kernel
theorem dX1_advance_60 : decode cX1_advance 60 = .ok (.putfield 33, 3) := by decide +kernel
theorem dX1_advance_63 : decode cX1_advance 63 = .ok (.return_, 1) := by decide +kernel
theorem dX1_advance_64 : decode cX1_advance 64 = .ok (.aload_n 0, 1) := by decide +kernel
theorem dX1_advance_65 : decode cX1_advance 65 = .ok (.getfield 7, 3) := by decide +kernel
theorem dX1_advance_68 : decode cX1_advance 68 = .ok (.aload_n 0, 1) := by decide +kernel
theorem dX1_advance_69 : decode cX1_advance 69 = .ok (.getfield 23, 3) := by decide +kernel
theorem dX1_advance_72 : decode cX1_advance 72 = .ok (.baload, 1) := by decide +kernel
theorem dX1_advance_73 : decode cX1_advance 73 = .ok (.istore_n 1, 1) := by decide +kernel
theorem dX1_advance_74 : decode cX1_advance 74 = .ok (.iload_n 1, 1) := by decide +kernel
theorem dX1_advance_75 : decode cX1_advance 75 = .ok (.invokestatic 36, 3) := by decide +kernel
theorem dX1_advance_78 : decode cX1_advance 78 = .ok (.ifCond .eq 10, 3) := by decide +kernel
theorem dX1_advance_8 : decode cX1_advance 8 = .ok (.if_icmp .ge 31, 3) := by decide +kernel
theorem dX1_advance_81 : decode cX1_advance 81 = .ok (.aload_n 0, 1) := by decide +kernel
theorem dX1_advance_82 : decode cX1_advance 82 = .ok (.invokevirtual 39, 3) := by decide +kernel
theorem dX1_advance_85 : decode cX1_advance 85 = .ok (.goto 43, 3) := by decide +kernel
theorem dX1_advance_88 : decode cX1_advance 88 = .ok (.iload_n 1, 1) := by decide +kernel
theorem dX1_advance_89 : decode cX1_advance 89 = .ok (.invokestatic 42, 3) := by decide +kernel
theorem dX1_advance_92 : decode cX1_advance 92 = .ok (.ifCond .eq 10, 3) := by decide +kernel
theorem dX1_advance_95 : decode cX1_advance 95 = .ok (.aload_n 0, 1) := by decide +kernel
theorem dX1_advance_96 : decode cX1_advance 96 = .ok (.invokevirtual 45, 3) := by decide +kernel
theorem dX1_advance_99 : decode cX1_advance 99 = .ok (.goto 29, 3) := by decide +kernel
theorem dX1_begin_0 : decode cX1_begin 0 = .ok (.aload_n 0, 1) := by decide +kernel
theorem dX1_begin_1 : decode cX1_begin 1 = .ok (.aload_n 1, 1) := by decide +kernel
theorem dX1_begin_12 : decode cX1_begin 12 = .ok (.putfield 19, 3) := by decide +kernel
theorem dX1_begin_15 : decode cX1_begin 15 = .ok (.aload_n 0, 1) := by decide +kernel
theorem dX1_begin_16 : decode cX1_begin 16 = .ok (.iconst 0, 1) := by decide +kernel
theorem dX1_begin_17 : decode cX1_begin 17 = .ok (.putfield 23, 3) := by decide +kernel
theorem dX1_begin_2 : decode cX1_begin 2 = .ok (.putfield 7, 3) := by decide +kernel
theorem dX1_begin_20 : decode cX1_begin 20 = .ok (.return_, 1) := by decide +kernel
theorem dX1_begin_5 : decode cX1_begin 5 = .ok (.aload_n 0, 1) := by decide +kernel
theorem dX1_begin_6 : decode cX1_begin 6 = .ok (.iload_n 2, 1) := by decide +kernel
theorem dX1_begin_7 : decode cX1_begin 7 = .ok (.aload_n 1, 1) := by decide +kernel
theorem dX1_begin_8 : decode cX1_begin 8 = .ok (.arraylength, 1) := by decide +kernel
theorem dX1_begin_9 : decode cX1_begin 9 = .ok (.invokestatic 13, 3) := by decide +kernel
theorem dX1_isBlank_0 : decode cX1_isBlank 0 = .ok (.iload_n 0, 1) := by decide +kernel
theorem dX1_isBlank_1 : decode cX1_isBlank 1 = .ok (.bipush 32, 2) := by decide +kernel
theorem dX1_isBlank_12 : decode cX1_isBlank 12 = .ok (.iconst 1, 1) := by decide +kernel
theorem dX1_isBlank_13 : decode cX1_isBlank 13 = .ok (.goto 4, 3) := by decide +kernel
theorem dX1_isBlank_16 : decode cX1_isBlank 16 = .ok (.iconst 0, 1) := by decide +kernel
theorem dX1_isBlank_17 : decode cX1_isBlank 17 = .ok (.ireturn, 1) := by decide +kernel
theorem dX1_isBlank_3 : decode cX1_isBlank 3 = .ok (.if_icmp .eq 9, 3) := by decide +kernel
theorem dX1_isBlank_6 : decode cX1_isBlank 6 = .ok (.iload_n 0, 1) := by decide +kernel
theorem dX1_isBlank_7 : decode cX1_isBlank 7 = .ok (.bipush 10, 2) := by decide +kernel
theorem dX1_isBlank_9 : decode cX1_isBlank 9 = .ok (.if_icmp .ne 7, 3) := by decide +kernel
theorem dX1_isDigit_0 : decode cX1_isDigit 0 = .ok (.iload_n 0, 1) := by decide +kernel
theorem dX1_isDigit_1 : decode cX1_isDigit 1 = .ok (.bipush 48, 2) := by decide +kernel
theorem dX1_isDigit_12 : decode cX1_isDigit 12 = .ok (.iconst 1, 1) := by decide +kernel
theorem dX1_isDigit_13 : decode cX1_isDigit 13 = .ok (.goto 4, 3) := by decide +kernel
theorem dX1_isDigit_16 : decode cX1_isDigit 16 = .ok (.iconst 0, 1) := by decide +kernel
theorem dX1_isDigit_17 : decode cX1_isDigit 17 = .ok (.ireturn, 1) := by decide +kernel
theorem dX1_isDigit_3 : decode cX1_isDigit 3 = .ok (.if_icmp .lt 13, 3) := by decide +kernel
theorem dX1_isDigit_6 : decode cX1_isDigit 6 = .ok (.iload_n 0, 1) := by decide +kernel
theorem dX1_isDigit_7 : decode cX1_isDigit 7 = .ok (.bipush 57, 2) := by decide +kernel
theorem dX1_isDigit_9 : decode cX1_isDigit 9 = .ok (.if_icmp .gt 7, 3) := by decide +kernel
theorem dX1_isLetterOrDigit_0 : decode cX1_isLetterOrDigit 0 = .ok (.iload_n 0, 1) := by decide +kernel
theorem dX1_isLetterOrDigit_1 : decode cX1_isLetterOrDigit 1 = .ok (.invokestatic 36, 3) := by decide +kernel
theorem dX1_isLetterOrDigit_11 : decode cX1_isLetterOrDigit 11 = .ok (.ifCond .eq 7, 3) := by decide +kernel
theorem dX1_isLetterOrDigit_14 : decode cX1_isLetterOrDigit 14 = .ok (.iconst 1, 1) := by decide +kernel
theorem dX1_isLetterOrDigit_15 : decode cX1_isLetterOrDigit 15 = .ok (.goto 4, 3) := by decide +kernel
theorem dX1_isLetterOrDigit_18 : decode cX1_isLetterOrDigit 18 = .ok (.iconst 0, 1) := by decide +kernel
theorem dX1_isLetterOrDigit_19 : decode cX1_isLetterOrDigit 19 = .ok (.ireturn, 1) := by decide +kernel
theorem dX1_isLetterOrDigit_4 : decode cX1_isLetterOrDigit 4 = .ok (.ifCond .ne 10, 3) := by decide +kernel
theorem dX1_isLetterOrDigit_7 : decode cX1_isLetterOrDigit 7 = .ok (.iload_n 0, 1) := by decide +kernel
theorem dX1_isLetterOrDigit_8 : decode cX1_isLetterOrDigit 8 = .ok (.invokestatic 42, 3) := by decide +kernel
theorem dX1_isLetter_0 : decode cX1_isLetter 0 = .ok (.iload_n 0, 1) := by decide +kernel
theorem dX1_isLetter_1 : decode cX1_isLetter 1 = .ok (.bipush 97, 2) := by decide +kernel
theorem dX1_isLetter_12 : decode cX1_isLetter 12 = .ok (.iconst 1, 1) := by decide +kernel
theorem dX1_isLetter_13 : decode cX1_isLetter 13 = .ok (.goto 4, 3) := by decide +kernel
theorem dX1_isLetter_16 : decode cX1_isLetter 16 = .ok (.iconst 0, 1) := by decide +kernel
theorem dX1_isLetter_17 : decode cX1_isLetter 17 = .ok (.ireturn, 1) := by decide +kernel
theorem dX1_isLetter_3 : decode cX1_isLetter 3 = .ok (.if_icmp .lt 13, 3) := by decide +kernel
theorem dX1_isLetter_6 : decode cX1_isLetter 6 = .ok (.iload_n 0, 1) := by decide +kernel
theorem dX1_isLetter_7 : decode cX1_isLetter 7 = .ok (.bipush 122, 2) := by decide +kernel
theorem dX1_isLetter_9 : decode cX1_isLetter 9 = .ok (.if_icmp .gt 7, 3) := by decide +kernel
theorem dX1_isSign_0 : decode cX1_isSign 0 = .ok (.iload_n 0, 1) := by decide +kernel
theorem dX1_isSign_1 : decode cX1_isSign 1 = .ok (.bipush 44, 2) := by decide +kernel
theorem dX1_isSign_12 : decode cX1_isSign 12 = .ok (.iload_n 0, 1) := by decide +kernel
theorem dX1_isSign_13 : decode cX1_isSign 13 = .ok (.bipush 61, 2) := by decide +kernel
theorem dX1_isSign_15 : decode cX1_isSign 15 = .ok (.if_icmp .eq 21, 3) := by decide +kernel
theorem dX1_isSign_18 : decode cX1_isSign 18 = .ok (.iload_n 0, 1) := by decide +kernel
theorem dX1_isSign_19 : decode cX1_isSign 19 = .ok (.bipush 40, 2) := by decide +kernel
theorem dX1_isSign_21 : decode cX1_isSign 21 = .ok (.if_icmp .eq 15, 3) := by decide +kernel
theorem dX1_isSign_24 : decode cX1_isSign 24 = .ok (.iload_n 0, 1) := by decide +kernel
theorem dX1_isSign_25 : decode cX1_isSign 25 = .ok (.bipush 41, 2) := by decide +kernel
theorem dX1_isSign_27 : decode cX1_isSign 27 = .ok (.if_icmp .eq 9, 3) := by decide +kernel
theorem dX1_isSign_3 : decode cX1_isSign 3 = .ok (.if_icmp .eq 33, 3) := by decide +kernel
theorem dX1_isSign_30 : decode cX1_isSign 30 = .ok (.iload_n 0, 1) := by decide +kernel
theorem dX1_isSign_31 : decode cX1_isSign 31 = .ok (.bipush 60, 2) := by decide +kernel
theorem dX1_isSign_33 : decode cX1_isSign 33 = .ok (.if_icmp .ne 7, 3) := by decide +kernel
theorem dX1_isSign_36 : decode cX1_isSign 36 = .ok (.iconst 1, 1) := by decide +kernel
theorem dX1_isSign_37 : decode cX1_isSign 37 = .ok (.goto 4, 3) := by decide +kernel
theorem dX1_isSign_40 : decode cX1_isSign 40 = .ok (.iconst 0, 1) := by decide +kernel
theorem dX1_isSign_41 : decode cX1_isSign 41 = .ok (.ireturn, 1) := by decide +kernel
theorem dX1_isSign_6 : decode cX1_isSign 6 = .ok (.iload_n 0, 1) := by decide +kernel
theorem dX1_isSign_7 : decode cX1_isSign 7 = .ok (.bipush 59, 2) := by decide +kernel
theorem dX1_isSign_9 : decode cX1_isSign 9 = .ok (.if_icmp .eq 27, 3) := by decide +kernel
theorem dX1_takeDigit_0 : decode cX1_takeDigit 0 = .ok (.aload_n 0, 1) := by decide +kernel
theorem dX1_takeDigit_1 : decode cX1_takeDigit 1 = .ok (.aload_n 0, 1) := by decide +kernel
theorem dX1_takeDigit_10 : decode cX1_takeDigit 10 = .ok (.bipush 48, 2) := by decide +kernel
theorem dX1_takeDigit_12 : decode cX1_takeDigit 12 = .ok (.isub, 1) := by decide +kernel
theorem dX1_takeDigit_13 : decode cX1_takeDigit 13 = .ok (.putfield 58, 3) := by decide +kernel
theorem dX1_takeDigit_16 : decode cX1_takeDigit 16 = .ok (.aload_n 0, 1) := by decide +kernel
theorem dX1_takeDigit_17 : decode cX1_takeDigit 17 = .ok (.dup, 1) := by decide +kernel
theorem dX1_takeDigit_18 : decode cX1_takeDigit 18 = .ok (.getfield 23, 3) := by decide +kernel
theorem dX1_takeDigit_2 : decode cX1_takeDigit 2 = .ok (.getfield 7, 3) := by decide +kernel
theorem dX1_takeDigit_21 : decode cX1_takeDigit 21 = .ok (.iconst 1, 1) := by decide +kernel
theorem dX1_takeDigit_22 : decode cX1_takeDigit 22 = .ok (.iadd, 1) := by decide +kernel
theorem dX1_takeDigit_23 : decode cX1_takeDigit 23 = .ok (.putfield 23, 3) := by decide +kernel
theorem dX1_takeDigit_26 : decode cX1_takeDigit 26 = .ok (.aload_n 0, 1) := by decide +kernel
theorem dX1_takeDigit_27 : decode cX1_takeDigit 27 = .ok (.getfield 23, 3) := by decide +kernel
theorem dX1_takeDigit_30 : decode cX1_takeDigit 30 = .ok (.aload_n 0, 1) := by decide +kernel
theorem dX1_takeDigit_31 : decode cX1_takeDigit 31 = .ok (.getfield 19, 3) := by decide +kernel
theorem dX1_takeDigit_34 : decode cX1_takeDigit 34 = .ok (.if_icmp .ge 18, 3) := by decide +kernel
theorem dX1_takeDigit_37 : decode cX1_takeDigit 37 = .ok (.aload_n 0, 1) := by decide +kernel
theorem dX1_takeDigit_38 : decode cX1_takeDigit 38 = .ok (.getfield 7, 3) := by decide +kernel
theorem dX1_takeDigit_41 : decode cX1_takeDigit 41 = .ok (.aload_n 0, 1) := by decide +kernel
theorem dX1_takeDigit_42 : decode cX1_takeDigit 42 = .ok (.getfield 23, 3) := by decide +kernel
theorem dX1_takeDigit_45 : decode cX1_takeDigit 45 = .ok (.baload, 1) := by decide +kernel
theorem dX1_takeDigit_46 : decode cX1_takeDigit 46 = .ok (.invokestatic 55, 3) := by decide +kernel
theorem dX1_takeDigit_49 : decode cX1_takeDigit 49 = .ok (.ifCond .ne 7, 3) := by decide +kernel
theorem dX1_takeDigit_5 : decode cX1_takeDigit 5 = .ok (.aload_n 0, 1) := by decide +kernel
theorem dX1_takeDigit_52 : decode cX1_takeDigit 52 = .ok (.iconst 1, 1) := by decide +kernel
theorem dX1_takeDigit_53 : decode cX1_takeDigit 53 = .ok (.goto 4, 3) := by decide +kernel
theorem dX1_takeDigit_56 : decode cX1_takeDigit 56 = .ok (.iconst 0, 1) := by decide +kernel
theorem dX1_takeDigit_57 : decode cX1_takeDigit 57 = .ok (.istore_n 1, 1) := by decide +kernel
theorem dX1_takeDigit_58 : decode cX1_takeDigit 58 = .ok (.aload_n 0, 1) := by decide +kernel
theorem dX1_takeDigit_59 : decode cX1_takeDigit 59 = .ok (.iload_n 1, 1) := by decide +kernel
theorem dX1_takeDigit_6 : decode cX1_takeDigit 6 = .ok (.getfield 23, 3) := by decide +kernel
theorem dX1_takeDigit_60 : decode cX1_takeDigit 60 = .ok (.ifCond .eq 14, 3) := by decide +kernel
theorem dX1_takeDigit_63 : decode cX1_takeDigit 63 = .ok (.aload_n 0, 1) := by decide +kernel
theorem dX1_takeDigit_64 : decode cX1_takeDigit 64 = .ok (.getfield 58, 3) := by decide +kernel
theorem dX1_takeDigit_67 : decode cX1_takeDigit 67 = .ok (.ifCond .le 7, 3) := by decide +kernel
theorem dX1_takeDigit_70 : decode cX1_takeDigit 70 = .ok (.iconst 3, 1) := by decide +kernel
theorem dX1_takeDigit_71 : decode cX1_takeDigit 71 = .ok (.goto 4, 3) := by decide +kernel
theorem dX1_takeDigit_74 : decode cX1_takeDigit 74 = .ok (.iconst 0, 1) := by decide +kernel
theorem dX1_takeDigit_75 : decode cX1_takeDigit 75 = .ok (.putfield 33, 3) := by decide +kernel
theorem dX1_takeDigit_78 : decode cX1_takeDigit 78 = .ok (.return_, 1) := by decide +kernel
theorem dX1_takeDigit_9 : decode cX1_takeDigit 9 = .ok (.baload, 1) := by decide +kernel
theorem dX1_takeWord_0 : decode cX1_takeWord 0 = .ok (.aload_n 0, 1) := by decide +kernel
theorem dX1_takeWord_1 : decode cX1_takeWord 1 = .ok (.lconst 0, 1) := by decide +kernel
theorem dX1_takeWord_10 : decode cX1_takeWord 10 = .ok (.getfield 19, 3) := by decide +kernel
theorem dX1_takeWord_13 : decode cX1_takeWord 13 = .ok (.if_icmp .ge 53, 3) := by decide +kernel
theorem dX1_takeWord_16 : decode cX1_takeWord 16 = .ok (.aload_n 0, 1) := by decide +kernel
theorem dX1_takeWord_17 : decode cX1_takeWord 17 = .ok (.getfield 7, 3) := by decide +kernel
theorem dX1_takeWord_2 : decode cX1_takeWord 2 = .ok (.putfield 51, 3) := by decide +kernel
theorem dX1_takeWord_20 : decode cX1_takeWord 20 = .ok (.aload_n 0, 1) := by decide +kernel
theorem dX1_takeWord_21 : decode cX1_takeWord 21 = .ok (.getfield 23, 3) := by decide +kernel
theorem dX1_takeWord_24 : decode cX1_takeWord 24 = .ok (.baload, 1) := by decide +kernel
theorem dX1_takeWord_25 : decode cX1_takeWord 25 = .ok (.invokestatic 55, 3) := by decide +kernel
theorem dX1_takeWord_28 : decode cX1_takeWord 28 = .ok (.ifCond .eq 38, 3) := by decide +kernel
theorem dX1_takeWord_31 : decode cX1_takeWord 31 = .ok (.aload_n 0, 1) := by decide +kernel
theorem dX1_takeWord_32 : decode cX1_takeWord 32 = .ok (.aload_n 0, 1) := by decide +kernel
theorem dX1_takeWord_33 : decode cX1_takeWord 33 = .ok (.getfield 51, 3) := by decide +kernel
theorem dX1_takeWord_36 : decode cX1_takeWord 36 = .ok (.bipush 8, 2) := by decide +kernel
theorem dX1_takeWord_38 : decode cX1_takeWord 38 = .ok (.lshl, 1) := by decide +kernel
theorem dX1_takeWord_39 : decode cX1_takeWord 39 = .ok (.aload_n 0, 1) := by decide +kernel
theorem dX1_takeWord_40 : decode cX1_takeWord 40 = .ok (.getfield 7, 3) := by decide +kernel
theorem dX1_takeWord_43 : decode cX1_takeWord 43 = .ok (.aload_n 0, 1) := by decide +kernel
theorem dX1_takeWord_44 : decode cX1_takeWord 44 = .ok (.getfield 23, 3) := by decide +kernel
theorem dX1_takeWord_47 : decode cX1_takeWord 47 = .ok (.baload, 1) := by decide +kernel
theorem dX1_takeWord_48 : decode cX1_takeWord 48 = .ok (.i2l, 1) := by decide +kernel
theorem dX1_takeWord_49 : decode cX1_takeWord 49 = .ok (.lor, 1) := by decide +kernel
theorem dX1_takeWord_5 : decode cX1_takeWord 5 = .ok (.aload_n 0, 1) := by decide +kernel
theorem dX1_takeWord_50 : decode cX1_takeWord 50 = .ok (.putfield 51, 3) := by decide +kernel
theorem dX1_takeWord_53 : decode cX1_takeWord 53 = .ok (.aload_n 0, 1) := by decide +kernel
theorem dX1_takeWord_54 : decode cX1_takeWord 54 = .ok (.dup, 1) := by decide +kernel
theorem dX1_takeWord_55 : decode cX1_takeWord 55 = .ok (.getfield 23, 3) := by decide +kernel
theorem dX1_takeWord_58 : decode cX1_takeWord 58 = .ok (.iconst 1, 1) := by decide +kernel
theorem dX1_takeWord_59 : decode cX1_takeWord 59 = .ok (.iadd, 1) := by decide +kernel
theorem dX1_takeWord_6 : decode cX1_takeWord 6 = .ok (.getfield 23, 3) := by decide +kernel
theorem dX1_takeWord_60 : decode cX1_takeWord 60 = .ok (.putfield 23, 3) := by decide +kernel
theorem dX1_takeWord_63 : decode cX1_takeWord 63 = .ok (.goto (-58), 3) := by decide +kernel
theorem dX1_takeWord_66 : decode cX1_takeWord 66 = .ok (.aload_n 0, 1) := by decide +kernel
theorem dX1_takeWord_67 : decode cX1_takeWord 67 = .ok (.aload_n 0, 1) := by decide +kernel
theorem dX1_takeWord_68 : decode cX1_takeWord 68 = .ok (.getfield 23, 3) := by decide +kernel
theorem dX1_takeWord_71 : decode cX1_takeWord 71 = .ok (.aload_n 0, 1) := by decide +kernel
theorem dX1_takeWord_72 : decode cX1_takeWord 72 = .ok (.getfield 30, 3) := by decide +kernel
theorem dX1_takeWord_75 : decode cX1_takeWord 75 = .ok (.isub, 1) := by decide +kernel
theorem dX1_takeWord_76 : decode cX1_takeWord 76 = .ok (.bipush 8, 2) := by decide +kernel
theorem dX1_takeWord_78 : decode cX1_takeWord 78 = .ok (.if_icmp .le 7, 3) := by decide +kernel
theorem dX1_takeWord_81 : decode cX1_takeWord 81 = .ok (.iconst 0, 1) := by decide +kernel
theorem dX1_takeWord_82 : decode cX1_takeWord 82 = .ok (.goto 4, 3) := by decide +kernel
theorem dX1_takeWord_85 : decode cX1_takeWord 85 = .ok (.iconst 2, 1) := by decide +kernel
theorem dX1_takeWord_86 : decode cX1_takeWord 86 = .ok (.putfield 33, 3) := by decide +kernel
theorem dX1_takeWord_89 : decode cX1_takeWord 89 = .ok (.return_, 1) := by decide +kernel
theorem dX1_takeWord_9 : decode cX1_takeWord 9 = .ok (.aload_n 0, 1) := by decide +kernel
theorem dX2_afterTick_0 : decode cX2_afterTick 0 = .ok (.aload_n 2, 1) := by decide +kernel
theorem dX2_afterTick_1 : decode cX2_afterTick 1 = .ok (.iload_n 1, 1) := by decide +kernel
theorem dX2_afterTick_11 : decode cX2_afterTick 11 = .ok (.iaload, 1) := by decide +kernel
theorem dX2_afterTick_12 : decode cX2_afterTick 12 = .ok (.invokestatic 53, 3) := by decide +kernel
theorem dX2_afterTick_15 : decode cX2_afterTick 15 = .ok (.istore 4, 2) := by decide +kernel
theorem dX2_afterTick_17 : decode cX2_afterTick 17 = .ok (.aload_n 0, 1) := by decide +kernel
theorem dX2_afterTick_18 : decode cX2_afterTick 18 = .ok (.iload_n 1, 1) := by decide +kernel
theorem dX2_afterTick_19 : decode cX2_afterTick 19 = .ok (.invokevirtual 37, 3) := by decide +kernel
theorem dX2_afterTick_2 : decode cX2_afterTick 2 = .ok (.iaload, 1) := by decide +kernel
theorem dX2_afterTick_22 : decode cX2_afterTick 22 = .ok (.iconst 1, 1) := by decide +kernel
theorem dX2_afterTick_23 : decode cX2_afterTick 23 = .ok (.if_icmp .le 14, 3) := by decide +kernel
theorem dX2_afterTick_26 : decode cX2_afterTick 26 = .ok (.aload_n 2, 1) := by decide +kernel
theorem dX2_afterTick_27 : decode cX2_afterTick 27 = .ok (.aload_n 0, 1) := by decide +kernel
theorem dX2_afterTick_28 : decode cX2_afterTick 28 = .ok (.iload_n 1, 1) := by decide +kernel
theorem dX2_afterTick_29 : decode cX2_afterTick 29 = .ok (.iconst 1, 1) := by decide +kernel
theorem dX2_afterTick_3 : decode cX2_afterTick 3 = .ok (.istore_n 3, 1) := by decide +kernel
theorem dX2_afterTick_30 : decode cX2_afterTick 30 = .ok (.invokevirtual 41, 3) := by decide +kernel
theorem dX2_afterTick_33 : decode cX2_afterTick 33 = .ok (.iaload, 1) := by decide +kernel
theorem dX2_afterTick_34 : decode cX2_afterTick 34 = .ok (.goto 4, 3) := by decide +kernel
theorem dX2_afterTick_37 : decode cX2_afterTick 37 = .ok (.iconst 1, 1) := by decide +kernel
theorem dX2_afterTick_38 : decode cX2_afterTick 38 = .ok (.istore 5, 2) := by decide +kernel
theorem dX2_afterTick_4 : decode cX2_afterTick 4 = .ok (.aload_n 2, 1) := by decide +kernel
theorem dX2_afterTick_40 : decode cX2_afterTick 40 = .ok (.iload 5, 2) := by decide +kernel
theorem dX2_afterTick_42 : decode cX2_afterTick 42 = .ok (.iconst 1, 1) := by decide +kernel
theorem dX2_afterTick_43 : decode cX2_afterTick 43 = .ok (.if_icmp .ne 6, 3) := by decide +kernel
theorem dX2_afterTick_46 : decode cX2_afterTick 46 = .ok (.iload 4, 2) := by decide +kernel
theorem dX2_afterTick_48 : decode cX2_afterTick 48 = .ok (.ireturn, 1) := by decide +kernel
theorem dX2_afterTick_49 : decode cX2_afterTick 49 = .ok (.iload 5, 2) := by decide +kernel
theorem dX2_afterTick_5 : decode cX2_afterTick 5 = .ok (.aload_n 0, 1) := by decide +kernel
theorem dX2_afterTick_51 : decode cX2_afterTick 51 = .ok (.ifCond .ne 5, 3) := by decide +kernel
theorem dX2_afterTick_54 : decode cX2_afterTick 54 = .ok (.iload_n 3, 1) := by decide +kernel
theorem dX2_afterTick_55 : decode cX2_afterTick 55 = .ok (.ireturn, 1) := by decide +kernel
theorem dX2_afterTick_56 : decode cX2_afterTick 56 = .ok (.iload 4, 2) := by decide +kernel
theorem dX2_afterTick_58 : decode cX2_afterTick 58 = .ok (.iload_n 3, 1) := by decide +kernel
theorem dX2_afterTick_59 : decode cX2_afterTick 59 = .ok (.if_icmp .ne 7, 3) := by decide +kernel
theorem dX2_afterTick_6 : decode cX2_afterTick 6 = .ok (.iload_n 1, 1) := by decide +kernel
theorem dX2_afterTick_62 : decode cX2_afterTick 62 = .ok (.iload_n 3, 1) := by decide +kernel
theorem dX2_afterTick_63 : decode cX2_afterTick 63 = .ok (.goto 4, 3) := by decide +kernel
theorem dX2_afterTick_66 : decode cX2_afterTick 66 = .ok (.iconst 2, 1) := by decide +kernel
theorem dX2_afterTick_67 : decode cX2_afterTick 67 = .ok (.ireturn, 1) := by decide +kernel
theorem dX2_afterTick_7 : decode cX2_afterTick 7 = .ok (.iconst 0, 1) := by decide +kernel
theorem dX2_afterTick_8 : decode cX2_afterTick 8 = .ok (.invokevirtual 41, 3) := by decide +kernel
theorem dX2_busValue_0 : decode cX2_busValue 0 = .ok (.iconst 3, 1) := by decide +kernel
theorem dX2_busValue_1 : decode cX2_busValue 1 = .ok (.istore_n 3, 1) := by decide +kernel
theorem dX2_busValue_10 : decode cX2_busValue 10 = .ok (.istore 5, 2) := by decide +kernel
theorem dX2_busValue_12 : decode cX2_busValue 12 = .ok (.iload 5, 2) := by decide +kernel
theorem dX2_busValue_14 : decode cX2_busValue 14 = .ok (.iload 4, 2) := by decide +kernel
theorem dX2_busValue_16 : decode cX2_busValue 16 = .ok (.if_icmp .ge 44, 3) := by decide +kernel
theorem dX2_busValue_19 : decode cX2_busValue 19 = .ok (.aload_n 0, 1) := by decide +kernel
theorem dX2_busValue_2 : decode cX2_busValue 2 = .ok (.aload_n 0, 1) := by decide +kernel
theorem dX2_busValue_20 : decode cX2_busValue 20 = .ok (.iload_n 1, 1) := by decide +kernel
theorem dX2_busValue_21 : decode cX2_busValue 21 = .ok (.iload 5, 2) := by decide +kernel
theorem dX2_busValue_23 : decode cX2_busValue 23 = .ok (.aload_n 2, 1) := by decide +kernel
theorem dX2_busValue_24 : decode cX2_busValue 24 = .ok (.invokestatic 56, 3) := by decide +kernel
theorem dX2_busValue_27 : decode cX2_busValue 27 = .ok (.istore 6, 2) := by decide +kernel
theorem dX2_busValue_29 : decode cX2_busValue 29 = .ok (.iload_n 3, 1) := by decide +kernel
theorem dX2_busValue_3 : decode cX2_busValue 3 = .ok (.iload_n 1, 1) := by decide +kernel
theorem dX2_busValue_30 : decode cX2_busValue 30 = .ok (.iconst 3, 1) := by decide +kernel
theorem dX2_busValue_31 : decode cX2_busValue 31 = .ok (.if_icmp .ne 9, 3) := by decide +kernel
theorem dX2_busValue_34 : decode cX2_busValue 34 = .ok (.iload 6, 2) := by decide +kernel
theorem dX2_busValue_36 : decode cX2_busValue 36 = .ok (.istore_n 3, 1) := by decide +kernel
theorem dX2_busValue_37 : decode cX2_busValue 37 = .ok (.goto 17, 3) := by decide +kernel
theorem dX2_busValue_4 : decode cX2_busValue 4 = .ok (.invokevirtual 37, 3) := by decide +kernel
theorem dX2_busValue_40 : decode cX2_busValue 40 = .ok (.iload 6, 2) := by decide +kernel
theorem dX2_busValue_42 : decode cX2_busValue 42 = .ok (.iconst 3, 1) := by decide +kernel
theorem dX2_busValue_43 : decode cX2_busValue 43 = .ok (.if_icmp .eq 11, 3) := by decide +kernel
theorem dX2_busValue_46 : decode cX2_busValue 46 = .ok (.iload 6, 2) := by decide +kernel
theorem dX2_busValue_48 : decode cX2_busValue 48 = .ok (.iload_n 3, 1) := by decide +kernel
theorem dX2_busValue_49 : decode cX2_busValue 49 = .ok (.if_icmp .eq 5, 3) := by decide +kernel
theorem dX2_busValue_52 : decode cX2_busValue 52 = .ok (.iconst 2, 1) := by decide +kernel
theorem dX2_busValue_53 : decode cX2_busValue 53 = .ok (.istore_n 3, 1) := by decide +kernel
theorem dX2_busValue_54 : decode cX2_busValue 54 = .ok (.iinc 5 1, 3) := by decide +kernel
theorem dX2_busValue_57 : decode cX2_busValue 57 = .ok (.goto (-45), 3) := by decide +kernel
theorem dX2_busValue_60 : decode cX2_busValue 60 = .ok (.iload_n 3, 1) := by decide +kernel
theorem dX2_busValue_61 : decode cX2_busValue 61 = .ok (.ireturn, 1) := by decide +kernel
theorem dX2_busValue_7 : decode cX2_busValue 7 = .ok (.istore 4, 2) := by decide +kernel
theorem dX2_busValue_9 : decode cX2_busValue 9 = .ok (.iconst 0, 1) := by decide +kernel
theorem dX2_driverValue_0 : decode cX2_driverValue 0 = .ok (.aload_n 3, 1) := by decide +kernel
theorem dX2_driverValue_1 : decode cX2_driverValue 1 = .ok (.aload_n 0, 1) := by decide +kernel
theorem dX2_driverValue_10 : decode cX2_driverValue 10 = .ok (.istore 4, 2) := by decide +kernel
theorem dX2_driverValue_12 : decode cX2_driverValue 12 = .ok (.aload_n 3, 1) := by decide +kernel
theorem dX2_driverValue_13 : decode cX2_driverValue 13 = .ok (.aload_n 0, 1) := by decide +kernel
theorem dX2_driverValue_14 : decode cX2_driverValue 14 = .ok (.iload_n 1, 1) := by decide +kernel
theorem dX2_driverValue_15 : decode cX2_driverValue 15 = .ok (.iconst 2, 1) := by decide +kernel
theorem dX2_driverValue_16 : decode cX2_driverValue 16 = .ok (.iload_n 2, 1) := by decide +kernel
theorem dX2_driverValue_17 : decode cX2_driverValue 17 = .ok (.imul, 1) := by decide +kernel
theorem dX2_driverValue_18 : decode cX2_driverValue 18 = .ok (.iconst 1, 1) := by decide +kernel
theorem dX2_driverValue_19 : decode cX2_driverValue 19 = .ok (.iadd, 1) := by decide +kernel
theorem dX2_driverValue_2 : decode cX2_driverValue 2 = .ok (.iload_n 1, 1) := by decide +kernel
theorem dX2_driverValue_20 : decode cX2_driverValue 20 = .ok (.invokevirtual 41, 3) := by decide +kernel
theorem dX2_driverValue_23 : decode cX2_driverValue 23 = .ok (.iaload, 1) := by decide +kernel
theorem dX2_driverValue_24 : decode cX2_driverValue 24 = .ok (.istore 5, 2) := by decide +kernel
theorem dX2_driverValue_26 : decode cX2_driverValue 26 = .ok (.iload 5, 2) := by decide +kernel
theorem dX2_driverValue_28 : decode cX2_driverValue 28 = .ok (.iconst 2, 1) := by decide +kernel
theorem dX2_driverValue_29 : decode cX2_driverValue 29 = .ok (.if_icmp .lt 5, 3) := by decide +kernel
theorem dX2_driverValue_3 : decode cX2_driverValue 3 = .ok (.iconst 2, 1) := by decide +kernel
theorem dX2_driverValue_32 : decode cX2_driverValue 32 = .ok (.iconst 2, 1) := by decide +kernel
theorem dX2_driverValue_33 : decode cX2_driverValue 33 = .ok (.ireturn, 1) := by decide +kernel
theorem dX2_driverValue_34 : decode cX2_driverValue 34 = .ok (.aload_n 0, 1) := by decide +kernel
theorem dX2_driverValue_35 : decode cX2_driverValue 35 = .ok (.iload_n 1, 1) := by decide +kernel
theorem dX2_driverValue_36 : decode cX2_driverValue 36 = .ok (.iload_n 2, 1) := by decide +kernel
theorem dX2_driverValue_37 : decode cX2_driverValue 37 = .ok (.invokevirtual 60, 3) := by decide +kernel
theorem dX2_driverValue_4 : decode cX2_driverValue 4 = .ok (.iload_n 2, 1) := by decide +kernel
theorem dX2_driverValue_40 : decode cX2_driverValue 40 = .ok (.ifCond .eq 7, 3) := by decide +kernel
theorem dX2_driverValue_43 : decode cX2_driverValue 43 = .ok (.iconst 0, 1) := by decide +kernel
theorem dX2_driverValue_44 : decode cX2_driverValue 44 = .ok (.goto 4, 3) := by decide +kernel
theorem dX2_driverValue_47 : decode cX2_driverValue 47 = .ok (.iconst 1, 1) := by decide +kernel
theorem dX2_driverValue_48 : decode cX2_driverValue 48 = .ok (.istore 6, 2) := by decide +kernel
theorem dX2_driverValue_5 : decode cX2_driverValue 5 = .ok (.imul, 1) := by decide +kernel
theorem dX2_driverValue_50 : decode cX2_driverValue 50 = .ok (.iload 5, 2) := by decide +kernel
theorem dX2_driverValue_52 : decode cX2_driverValue 52 = .ok (.iload 6, 2) := by decide +kernel
theorem dX2_driverValue_54 : decode cX2_driverValue 54 = .ok (.if_icmp .ne 11, 3) := by decide +kernel
theorem dX2_driverValue_57 : decode cX2_driverValue 57 = .ok (.iload 4, 2) := by decide +kernel
theorem dX2_driverValue_59 : decode cX2_driverValue 59 = .ok (.invokestatic 53, 3) := by decide +kernel
theorem dX2_driverValue_6 : decode cX2_driverValue 6 = .ok (.invokevirtual 41, 3) := by decide +kernel
theorem dX2_driverValue_62 : decode cX2_driverValue 62 = .ok (.goto 4, 3) := by decide +kernel
theorem dX2_driverValue_65 : decode cX2_driverValue 65 = .ok (.iconst 3, 1) := by decide +kernel
theorem dX2_driverValue_66 : decode cX2_driverValue 66 = .ok (.ireturn, 1) := by decide +kernel
theorem dX2_driverValue_9 : decode cX2_driverValue 9 = .ok (.iaload, 1) := by decide +kernel
theorem dX2_gateValue_0 : decode cX2_gateValue 0 = .ok (.aload_n 0, 1) := by decide +kernel
theorem dX2_gateValue_1 : decode cX2_gateValue 1 = .ok (.getfield 31, 3) := by decide +kernel
theorem dX2_gateValue_10 : decode cX2_gateValue 10 = .ok (.if_icmp .ne 10, 3) := by decide +kernel
theorem dX2_gateValue_101 : decode cX2_gateValue 101 = .ok (.invokestatic 45, 3) := by decide +kernel
theorem dX2_gateValue_104 : decode cX2_gateValue 104 = .ok (.istore 7, 2) := by decide +kernel
theorem dX2_gateValue_106 : decode cX2_gateValue 106 = .ok (.iload_n 3, 1) := by decide +kernel
theorem dX2_gateValue_107 : decode cX2_gateValue 107 = .ok (.invokestatic 49, 3) := by decide +kernel
theorem dX2_gateValue_110 : decode cX2_gateValue 110 = .ok (.ifCond .eq 16, 3) := by decide +kernel
theorem dX2_gateValue_113 : decode cX2_gateValue 113 = .ok (.iload 7, 2) := by decide +kernel
theorem dX2_gateValue_115 : decode cX2_gateValue 115 = .ok (.iconst 2, 1) := by decide +kernel
theorem dX2_gateValue_116 : decode cX2_gateValue 116 = .ok (.if_icmp .ge 10, 3) := by decide +kernel
theorem dX2_gateValue_119 : decode cX2_gateValue 119 = .ok (.iconst 1, 1) := by decide +kernel
theorem dX2_gateValue_120 : decode cX2_gateValue 120 = .ok (.iload 7, 2) := by decide +kernel
theorem dX2_gateValue_122 : decode cX2_gateValue 122 = .ok (.isub, 1) := by decide +kernel
theorem dX2_gateValue_123 : decode cX2_gateValue 123 = .ok (.goto 5, 3) := by decide +kernel
theorem dX2_gateValue_126 : decode cX2_gateValue 126 = .ok (.iload 7, 2) := by decide +kernel
theorem dX2_gateValue_128 : decode cX2_gateValue 128 = .ok (.ireturn, 1) := by decide +kernel
theorem dX2_gateValue_13 : decode cX2_gateValue 13 = .ok (.aload_n 0, 1) := by decide +kernel
theorem dX2_gateValue_14 : decode cX2_gateValue 14 = .ok (.iload_n 1, 1) := by decide +kernel
theorem dX2_gateValue_15 : decode cX2_gateValue 15 = .ok (.aload_n 2, 1) := by decide +kernel
theorem dX2_gateValue_16 : decode cX2_gateValue 16 = .ok (.invokestatic 34, 3) := by decide +kernel
theorem dX2_gateValue_19 : decode cX2_gateValue 19 = .ok (.ireturn, 1) := by decide +kernel
theorem dX2_gateValue_20 : decode cX2_gateValue 20 = .ok (.iconst 0, 1) := by decide +kernel
theorem dX2_gateValue_21 : decode cX2_gateValue 21 = .ok (.istore 4, 2) := by decide +kernel
theorem dX2_gateValue_23 : decode cX2_gateValue 23 = .ok (.iconst 0, 1) := by decide +kernel
theorem dX2_gateValue_24 : decode cX2_gateValue 24 = .ok (.istore 5, 2) := by decide +kernel
theorem dX2_gateValue_26 : decode cX2_gateValue 26 = .ok (.aload_n 0, 1) := by decide +kernel
theorem dX2_gateValue_27 : decode cX2_gateValue 27 = .ok (.iload_n 1, 1) := by decide +kernel
theorem dX2_gateValue_28 : decode cX2_gateValue 28 = .ok (.invokevirtual 37, 3) := by decide +kernel
theorem dX2_gateValue_31 : decode cX2_gateValue 31 = .ok (.istore 6, 2) := by decide +kernel
theorem dX2_gateValue_33 : decode cX2_gateValue 33 = .ok (.iconst 0, 1) := by decide +kernel
theorem dX2_gateValue_34 : decode cX2_gateValue 34 = .ok (.istore 7, 2) := by decide +kernel
theorem dX2_gateValue_36 : decode cX2_gateValue 36 = .ok (.iload 7, 2) := by decide +kernel
theorem dX2_gateValue_38 : decode cX2_gateValue 38 = .ok (.iload 6, 2) := by decide +kernel
theorem dX2_gateValue_4 : decode cX2_gateValue 4 = .ok (.iload_n 1, 1) := by decide +kernel
theorem dX2_gateValue_40 : decode cX2_gateValue 40 = .ok (.if_icmp .ge 51, 3) := by decide +kernel
theorem dX2_gateValue_43 : decode cX2_gateValue 43 = .ok (.aload_n 2, 1) := by decide +kernel
theorem dX2_gateValue_44 : decode cX2_gateValue 44 = .ok (.aload_n 0, 1) := by decide +kernel
theorem dX2_gateValue_45 : decode cX2_gateValue 45 = .ok (.iload_n 1, 1) := by decide +kernel
theorem dX2_gateValue_46 : decode cX2_gateValue 46 = .ok (.iload 7, 2) := by decide +kernel
theorem dX2_gateValue_48 : decode cX2_gateValue 48 = .ok (.invokevirtual 41, 3) := by decide +kernel
theorem dX2_gateValue_5 : decode cX2_gateValue 5 = .ok (.iaload, 1) := by decide +kernel
theorem dX2_gateValue_51 : decode cX2_gateValue 51 = .ok (.iaload, 1) := by decide +kernel
theorem dX2_gateValue_52 : decode cX2_gateValue 52 = .ok (.istore 8, 2) := by decide +kernel
theorem dX2_gateValue_54 : decode cX2_gateValue 54 = .ok (.iload 4, 2) := by decide +kernel
theorem dX2_gateValue_56 : decode cX2_gateValue 56 = .ok (.iload 8, 2) := by decide +kernel
theorem dX2_gateValue_58 : decode cX2_gateValue 58 = .ok (.ifCond .ne 7, 3) := by decide +kernel
theorem dX2_gateValue_6 : decode cX2_gateValue 6 = .ok (.istore_n 3, 1) := by decide +kernel
theorem dX2_gateValue_61 : decode cX2_gateValue 61 = .ok (.iconst 1, 1) := by decide +kernel
theorem dX2_gateValue_62 : decode cX2_gateValue 62 = .ok (.goto 4, 3) := by decide +kernel
theorem dX2_gateValue_65 : decode cX2_gateValue 65 = .ok (.iconst 0, 1) := by decide +kernel
theorem dX2_gateValue_66 : decode cX2_gateValue 66 = .ok (.iadd, 1) := by decide +kernel
theorem dX2_gateValue_67 : decode cX2_gateValue 67 = .ok (.istore 4, 2) := by decide +kernel
theorem dX2_gateValue_69 : decode cX2_gateValue 69 = .ok (.iload 5, 2) := by decide +kernel
theorem dX2_gateValue_7 : decode cX2_gateValue 7 = .ok (.iload_n 3, 1) := by decide +kernel
theorem dX2_gateValue_71 : decode cX2_gateValue 71 = .ok (.iload 8, 2) := by decide +kernel
theorem dX2_gateValue_73 : decode cX2_gateValue 73 = .ok (.iconst 1, 1) := by decide +kernel
theorem dX2_gateValue_74 : decode cX2_gateValue 74 = .ok (.if_icmp .ne 7, 3) := by decide +kernel
theorem dX2_gateValue_77 : decode cX2_gateValue 77 = .ok (.iconst 1, 1) := by decide +kernel
theorem dX2_gateValue_78 : decode cX2_gateValue 78 = .ok (.goto 4, 3) := by decide +kernel
theorem dX2_gateValue_8 : decode cX2_gateValue 8 = .ok (.bipush 8, 2) := by decide +kernel
theorem dX2_gateValue_81 : decode cX2_gateValue 81 = .ok (.iconst 0, 1) := by decide +kernel
theorem dX2_gateValue_82 : decode cX2_gateValue 82 = .ok (.iadd, 1) := by decide +kernel
theorem dX2_gateValue_83 : decode cX2_gateValue 83 = .ok (.istore 5, 2) := by decide +kernel
theorem dX2_gateValue_85 : decode cX2_gateValue 85 = .ok (.iinc 7 1, 3) := by decide +kernel
theorem dX2_gateValue_88 : decode cX2_gateValue 88 = .ok (.goto (-52), 3) := by decide +kernel
theorem dX2_gateValue_91 : decode cX2_gateValue 91 = .ok (.iload_n 3, 1) := by decide +kernel
theorem dX2_gateValue_92 : decode cX2_gateValue 92 = .ok (.bipush (-2), 2) := by decide +kernel
theorem dX2_gateValue_94 : decode cX2_gateValue 94 = .ok (.iand, 1) := by decide +kernel
theorem dX2_gateValue_95 : decode cX2_gateValue 95 = .ok (.iload 4, 2) := by decide +kernel
theorem dX2_gateValue_97 : decode cX2_gateValue 97 = .ok (.iload 5, 2) := by decide +kernel
theorem dX2_gateValue_99 : decode cX2_gateValue 99 = .ok (.iload 6, 2) := by decide +kernel
theorem dX2_isTurned_0 : decode cX2_isTurned 0 = .ok (.iload_n 0, 1) := by decide +kernel
theorem dX2_isTurned_1 : decode cX2_isTurned 1 = .ok (.iconst 1, 1) := by decide +kernel
theorem dX2_isTurned_11 : decode cX2_isTurned 11 = .ok (.iconst 0, 1) := by decide +kernel
theorem dX2_isTurned_12 : decode cX2_isTurned 12 = .ok (.ireturn, 1) := by decide +kernel
theorem dX2_isTurned_2 : decode cX2_isTurned 2 = .ok (.iand, 1) := by decide +kernel
theorem dX2_isTurned_3 : decode cX2_isTurned 3 = .ok (.iconst 1, 1) := by decide +kernel
theorem dX2_isTurned_4 : decode cX2_isTurned 4 = .ok (.if_icmp .ne 7, 3) := by decide +kernel
theorem dX2_isTurned_7 : decode cX2_isTurned 7 = .ok (.iconst 1, 1) := by decide +kernel
theorem dX2_isTurned_8 : decode cX2_isTurned 8 = .ok (.goto 4, 3) := by decide +kernel
theorem dX2_muxValue_0 : decode cX2_muxValue 0 = .ok (.aload_n 2, 1) := by decide +kernel
theorem dX2_muxValue_1 : decode cX2_muxValue 1 = .ok (.aload_n 0, 1) := by decide +kernel
theorem dX2_muxValue_10 : decode cX2_muxValue 10 = .ok (.aload_n 0, 1) := by decide +kernel
theorem dX2_muxValue_11 : decode cX2_muxValue 11 = .ok (.iload_n 1, 1) := by decide +kernel
theorem dX2_muxValue_12 : decode cX2_muxValue 12 = .ok (.iconst 1, 1) := by decide +kernel
theorem dX2_muxValue_13 : decode cX2_muxValue 13 = .ok (.invokevirtual 41, 3) := by decide +kernel
theorem dX2_muxValue_16 : decode cX2_muxValue 16 = .ok (.iaload, 1) := by decide +kernel
theorem dX2_muxValue_17 : decode cX2_muxValue 17 = .ok (.invokestatic 53, 3) := by decide +kernel
theorem dX2_muxValue_2 : decode cX2_muxValue 2 = .ok (.iload_n 1, 1) := by decide +kernel
theorem dX2_muxValue_20 : decode cX2_muxValue 20 = .ok (.istore 4, 2) := by decide +kernel
theorem dX2_muxValue_22 : decode cX2_muxValue 22 = .ok (.aload_n 2, 1) := by decide +kernel
theorem dX2_muxValue_23 : decode cX2_muxValue 23 = .ok (.aload_n 0, 1) := by decide +kernel
theorem dX2_muxValue_24 : decode cX2_muxValue 24 = .ok (.iload_n 1, 1) := by decide +kernel
theorem dX2_muxValue_25 : decode cX2_muxValue 25 = .ok (.iconst 2, 1) := by decide +kernel
theorem dX2_muxValue_26 : decode cX2_muxValue 26 = .ok (.invokevirtual 41, 3) := by decide +kernel
theorem dX2_muxValue_29 : decode cX2_muxValue 29 = .ok (.iaload, 1) := by decide +kernel
theorem dX2_muxValue_3 : decode cX2_muxValue 3 = .ok (.iconst 0, 1) := by decide +kernel
theorem dX2_muxValue_30 : decode cX2_muxValue 30 = .ok (.invokestatic 53, 3) := by decide +kernel
theorem dX2_muxValue_33 : decode cX2_muxValue 33 = .ok (.istore 5, 2) := by decide +kernel
theorem dX2_muxValue_35 : decode cX2_muxValue 35 = .ok (.iload_n 3, 1) := by decide +kernel
theorem dX2_muxValue_36 : decode cX2_muxValue 36 = .ok (.ifCond .ne 6, 3) := by decide +kernel
theorem dX2_muxValue_39 : decode cX2_muxValue 39 = .ok (.iload 4, 2) := by decide +kernel
theorem dX2_muxValue_4 : decode cX2_muxValue 4 = .ok (.invokevirtual 41, 3) := by decide +kernel
theorem dX2_muxValue_41 : decode cX2_muxValue 41 = .ok (.ireturn, 1) := by decide +kernel
theorem dX2_muxValue_42 : decode cX2_muxValue 42 = .ok (.iload_n 3, 1) := by decide +kernel
theorem dX2_muxValue_43 : decode cX2_muxValue 43 = .ok (.iconst 1, 1) := by decide +kernel
theorem dX2_muxValue_44 : decode cX2_muxValue 44 = .ok (.if_icmp .ne 6, 3) := by decide +kernel
theorem dX2_muxValue_47 : decode cX2_muxValue 47 = .ok (.iload 5, 2) := by decide +kernel
theorem dX2_muxValue_49 : decode cX2_muxValue 49 = .ok (.ireturn, 1) := by decide +kernel
theorem dX2_muxValue_50 : decode cX2_muxValue 50 = .ok (.iload 4, 2) := by decide +kernel
theorem dX2_muxValue_52 : decode cX2_muxValue 52 = .ok (.iload 5, 2) := by decide +kernel
theorem dX2_muxValue_54 : decode cX2_muxValue 54 = .ok (.if_icmp .ne 8, 3) := by decide +kernel
theorem dX2_muxValue_57 : decode cX2_muxValue 57 = .ok (.iload 4, 2) := by decide +kernel
theorem dX2_muxValue_59 : decode cX2_muxValue 59 = .ok (.goto 4, 3) := by decide +kernel
theorem dX2_muxValue_62 : decode cX2_muxValue 62 = .ok (.iconst 2, 1) := by decide +kernel
theorem dX2_muxValue_63 : decode cX2_muxValue 63 = .ok (.ireturn, 1) := by decide +kernel
theorem dX2_muxValue_7 : decode cX2_muxValue 7 = .ok (.iaload, 1) := by decide +kernel
theorem dX2_muxValue_8 : decode cX2_muxValue 8 = .ok (.istore_n 3, 1) := by decide +kernel
theorem dX2_muxValue_9 : decode cX2_muxValue 9 = .ok (.aload_n 2, 1) := by decide +kernel
theorem dX2_plainValue_0 : decode cX2_plainValue 0 = .ok (.iload_n 1, 1) := by decide +kernel
theorem dX2_plainValue_1 : decode cX2_plainValue 1 = .ok (.iload_n 2, 1) := by decide +kernel
theorem dX2_plainValue_11 : decode cX2_plainValue 11 = .ok (.iconst 0, 1) := by decide +kernel
theorem dX2_plainValue_12 : decode cX2_plainValue 12 = .ok (.istore 4, 2) := by decide +kernel
theorem dX2_plainValue_14 : decode cX2_plainValue 14 = .ok (.iload_n 0, 1) := by decide +kernel
theorem dX2_plainValue_15 : decode cX2_plainValue 15 = .ok (.lookupswitch 57 #[(2, 25), (4, 44)], 25) := by decide +kernel
theorem dX2_plainValue_2 : decode cX2_plainValue 2 = .ok (.iadd, 1) := by decide +kernel
theorem dX2_plainValue_3 : decode cX2_plainValue 3 = .ok (.iload_n 3, 1) := by decide +kernel
theorem dX2_plainValue_4 : decode cX2_plainValue 4 = .ok (.if_icmp .ne 7, 3) := by decide +kernel
theorem dX2_plainValue_40 : decode cX2_plainValue 40 = .ok (.iload_n 2, 1) := by decide +kernel
theorem dX2_plainValue_41 : decode cX2_plainValue 41 = .ok (.ifCond .le 7, 3) := by decide +kernel
theorem dX2_plainValue_44 : decode cX2_plainValue 44 = .ok (.iconst 1, 1) := by decide +kernel
theorem dX2_plainValue_45 : decode cX2_plainValue 45 = .ok (.goto 13, 3) := by decide +kernel
theorem dX2_plainValue_48 : decode cX2_plainValue 48 = .ok (.iload 4, 2) := by decide +kernel
theorem dX2_plainValue_50 : decode cX2_plainValue 50 = .ok (.ifCond .eq 7, 3) := by decide +kernel
theorem dX2_plainValue_53 : decode cX2_plainValue 53 = .ok (.iconst 0, 1) := by decide +kernel
theorem dX2_plainValue_54 : decode cX2_plainValue 54 = .ok (.goto 4, 3) := by decide +kernel
theorem dX2_plainValue_57 : decode cX2_plainValue 57 = .ok (.iconst 2, 1) := by decide +kernel
theorem dX2_plainValue_58 : decode cX2_plainValue 58 = .ok (.ireturn, 1) := by decide +kernel
theorem dX2_plainValue_59 : decode cX2_plainValue 59 = .ok (.iload 4, 2) := by decide +kernel
theorem dX2_plainValue_61 : decode cX2_plainValue 61 = .ok (.ifCond .eq 9, 3) := by decide +kernel
theorem dX2_plainValue_64 : decode cX2_plainValue 64 = .ok (.iload_n 2, 1) := by decide +kernel
theorem dX2_plainValue_65 : decode cX2_plainValue 65 = .ok (.iconst 1, 1) := by decide +kernel
theorem dX2_plainValue_66 : decode cX2_plainValue 66 = .ok (.iand, 1) := by decide +kernel
theorem dX2_plainValue_67 : decode cX2_plainValue 67 = .ok (.goto 4, 3) := by decide +kernel
theorem dX2_plainValue_7 : decode cX2_plainValue 7 = .ok (.iconst 1, 1) := by decide +kernel
theorem dX2_plainValue_70 : decode cX2_plainValue 70 = .ok (.iconst 2, 1) := by decide +kernel
theorem dX2_plainValue_71 : decode cX2_plainValue 71 = .ok (.ireturn, 1) := by decide +kernel
theorem dX2_plainValue_72 : decode cX2_plainValue 72 = .ok (.iload_n 1, 1) := by decide +kernel
theorem dX2_plainValue_73 : decode cX2_plainValue 73 = .ok (.ifCond .le 7, 3) := by decide +kernel
theorem dX2_plainValue_76 : decode cX2_plainValue 76 = .ok (.iconst 0, 1) := by decide +kernel
theorem dX2_plainValue_77 : decode cX2_plainValue 77 = .ok (.goto 13, 3) := by decide +kernel
theorem dX2_plainValue_8 : decode cX2_plainValue 8 = .ok (.goto 4, 3) := by decide +kernel
theorem dX2_plainValue_80 : decode cX2_plainValue 80 = .ok (.iload 4, 2) := by decide +kernel
theorem dX2_plainValue_82 : decode cX2_plainValue 82 = .ok (.ifCond .eq 7, 3) := by decide +kernel
theorem dX2_plainValue_85 : decode cX2_plainValue 85 = .ok (.iconst 1, 1) := by decide +kernel
theorem dX2_plainValue_86 : decode cX2_plainValue 86 = .ok (.goto 4, 3) := by decide +kernel
theorem dX2_plainValue_89 : decode cX2_plainValue 89 = .ok (.iconst 2, 1) := by decide +kernel
theorem dX2_plainValue_90 : decode cX2_plainValue 90 = .ok (.ireturn, 1) := by decide +kernel
theorem dX2_settle_0 : decode cX2_settle 0 = .ok (.iconst 0, 1) := by decide +kernel
theorem dX2_settle_1 : decode cX2_settle 1 = .ok (.istore_n 2, 1) := by decide +kernel
theorem dX2_settle_10 : decode cX2_settle 10 = .ok (.aload_n 0, 1) := by decide +kernel
theorem dX2_settle_11 : decode cX2_settle 11 = .ok (.getfield 15, 3) := by decide +kernel
theorem dX2_settle_14 : decode cX2_settle 14 = .ok (.iload_n 2, 1) := by decide +kernel
theorem dX2_settle_15 : decode cX2_settle 15 = .ok (.iaload, 1) := by decide +kernel
theorem dX2_settle_16 : decode cX2_settle 16 = .ok (.istore_n 3, 1) := by decide +kernel
theorem dX2_settle_17 : decode cX2_settle 17 = .ok (.aload_n 0, 1) := by decide +kernel
theorem dX2_settle_18 : decode cX2_settle 18 = .ok (.getfield 19, 3) := by decide +kernel
theorem dX2_settle_2 : decode cX2_settle 2 = .ok (.iload_n 2, 1) := by decide +kernel
theorem dX2_settle_21 : decode cX2_settle 21 = .ok (.iload_n 3, 1) := by decide +kernel
theorem dX2_settle_22 : decode cX2_settle 22 = .ok (.iaload, 1) := by decide +kernel
theorem dX2_settle_23 : decode cX2_settle 23 = .ok (.iconst 2, 1) := by decide +kernel
theorem dX2_settle_24 : decode cX2_settle 24 = .ok (.if_icmp .ne 15, 3) := by decide +kernel
theorem dX2_settle_27 : decode cX2_settle 27 = .ok (.aload_n 1, 1) := by decide +kernel
theorem dX2_settle_28 : decode cX2_settle 28 = .ok (.iload_n 3, 1) := by decide +kernel
theorem dX2_settle_29 : decode cX2_settle 29 = .ok (.aload_n 0, 1) := by decide +kernel
theorem dX2_settle_3 : decode cX2_settle 3 = .ok (.aload_n 0, 1) := by decide +kernel
theorem dX2_settle_30 : decode cX2_settle 30 = .ok (.iload_n 3, 1) := by decide +kernel
theorem dX2_settle_31 : decode cX2_settle 31 = .ok (.aload_n 1, 1) := by decide +kernel
theorem dX2_settle_32 : decode cX2_settle 32 = .ok (.invokestatic 22, 3) := by decide +kernel
theorem dX2_settle_35 : decode cX2_settle 35 = .ok (.iastore, 1) := by decide +kernel
theorem dX2_settle_36 : decode cX2_settle 36 = .ok (.goto 22, 3) := by decide +kernel
theorem dX2_settle_39 : decode cX2_settle 39 = .ok (.aload_n 0, 1) := by decide +kernel
theorem dX2_settle_4 : decode cX2_settle 4 = .ok (.getfield 9, 3) := by decide +kernel
theorem dX2_settle_40 : decode cX2_settle 40 = .ok (.getfield 19, 3) := by decide +kernel
theorem dX2_settle_43 : decode cX2_settle 43 = .ok (.iload_n 3, 1) := by decide +kernel
theorem dX2_settle_44 : decode cX2_settle 44 = .ok (.iaload, 1) := by decide +kernel
theorem dX2_settle_45 : decode cX2_settle 45 = .ok (.iconst 1, 1) := by decide +kernel
theorem dX2_settle_46 : decode cX2_settle 46 = .ok (.if_icmp .ne 12, 3) := by decide +kernel
theorem dX2_settle_49 : decode cX2_settle 49 = .ok (.aload_n 1, 1) := by decide +kernel
theorem dX2_settle_50 : decode cX2_settle 50 = .ok (.iload_n 3, 1) := by decide +kernel
theorem dX2_settle_51 : decode cX2_settle 51 = .ok (.aload_n 0, 1) := by decide +kernel
theorem dX2_settle_52 : decode cX2_settle 52 = .ok (.iload_n 3, 1) := by decide +kernel
theorem dX2_settle_53 : decode cX2_settle 53 = .ok (.aload_n 1, 1) := by decide +kernel
theorem dX2_settle_54 : decode cX2_settle 54 = .ok (.invokestatic 28, 3) := by decide +kernel
theorem dX2_settle_57 : decode cX2_settle 57 = .ok (.iastore, 1) := by decide +kernel
theorem dX2_settle_58 : decode cX2_settle 58 = .ok (.iinc 2 1, 3) := by decide +kernel
theorem dX2_settle_61 : decode cX2_settle 61 = .ok (.goto (-59), 3) := by decide +kernel
theorem dX2_settle_64 : decode cX2_settle 64 = .ok (.return_, 1) := by decide +kernel
theorem dX2_settle_7 : decode cX2_settle 7 = .ok (.if_icmp .ge 57, 3) := by decide +kernel
theorem dX2_takenIn_0 : decode cX2_takenIn 0 = .ok (.iload_n 0, 1) := by decide +kernel
theorem dX2_takenIn_1 : decode cX2_takenIn 1 = .ok (.iconst 3, 1) := by decide +kernel
theorem dX2_takenIn_10 : decode cX2_takenIn 10 = .ok (.ireturn, 1) := by decide +kernel
theorem dX2_takenIn_2 : decode cX2_takenIn 2 = .ok (.if_icmp .ne 7, 3) := by decide +kernel
theorem dX2_takenIn_5 : decode cX2_takenIn 5 = .ok (.iconst 2, 1) := by decide +kernel
theorem dX2_takenIn_6 : decode cX2_takenIn 6 = .ok (.goto 4, 3) := by decide +kernel
theorem dX2_takenIn_9 : decode cX2_takenIn 9 = .ok (.iload_n 0, 1) := by decide +kernel
