theorem dJ13_bitCount_95d88_0 : decode cJ13_bitCount_95d88 0 = .ok (.lload_n 0, 1) := by decide +kernel
theorem dJ13_bitCount_95d88_1 : decode cJ13_bitCount_95d88 1 = .ok (.lload_n 0, 1) := by decide +kernel
theorem dJ13_bitCount_95d88_10 : decode cJ13_bitCount_95d88 10 = .ok (.lload_n 0, 1) := by decide +kernel
theorem dJ13_bitCount_95d88_11 : decode cJ13_bitCount_95d88 11 = .ok (.ldc2_w 316, 3) := by decide +kernel
theorem dJ13_bitCount_95d88_14 : decode cJ13_bitCount_95d88 14 = .ok (.land, 1) := by decide +kernel
theorem dJ13_bitCount_95d88_15 : decode cJ13_bitCount_95d88 15 = .ok (.lload_n 0, 1) := by decide +kernel
theorem dJ13_bitCount_95d88_16 : decode cJ13_bitCount_95d88 16 = .ok (.iconst 2, 1) := by decide +kernel
theorem dJ13_bitCount_95d88_17 : decode cJ13_bitCount_95d88 17 = .ok (.lushr, 1) := by decide +kernel
theorem dJ13_bitCount_95d88_18 : decode cJ13_bitCount_95d88 18 = .ok (.ldc2_w 316, 3) := by decide +kernel
theorem dJ13_bitCount_95d88_2 : decode cJ13_bitCount_95d88 2 = .ok (.iconst 1, 1) := by decide +kernel
theorem dJ13_bitCount_95d88_21 : decode cJ13_bitCount_95d88 21 = .ok (.land, 1) := by decide +kernel
theorem dJ13_bitCount_95d88_22 : decode cJ13_bitCount_95d88 22 = .ok (.ladd, 1) := by decide +kernel
theorem dJ13_bitCount_95d88_23 : decode cJ13_bitCount_95d88 23 = .ok (.lstore_n 0, 1) := by decide +kernel
theorem dJ13_bitCount_95d88_24 : decode cJ13_bitCount_95d88 24 = .ok (.lload_n 0, 1) := by decide +kernel
theorem dJ13_bitCount_95d88_25 : decode cJ13_bitCount_95d88 25 = .ok (.lload_n 0, 1) := by decide +kernel
theorem dJ13_bitCount_95d88_26 : decode cJ13_bitCount_95d88 26 = .ok (.iconst 4, 1) := by decide +kernel
theorem dJ13_bitCount_95d88_27 : decode cJ13_bitCount_95d88 27 = .ok (.lushr, 1) := by decide +kernel
theorem dJ13_bitCount_95d88_28 : decode cJ13_bitCount_95d88 28 = .ok (.ladd, 1) := by decide +kernel
theorem dJ13_bitCount_95d88_29 : decode cJ13_bitCount_95d88 29 = .ok (.ldc2_w 318, 3) := by decide +kernel
theorem dJ13_bitCount_95d88_3 : decode cJ13_bitCount_95d88 3 = .ok (.lushr, 1) := by decide +kernel
theorem dJ13_bitCount_95d88_32 : decode cJ13_bitCount_95d88 32 = .ok (.land, 1) := by decide +kernel
theorem dJ13_bitCount_95d88_33 : decode cJ13_bitCount_95d88 33 = .ok (.lstore_n 0, 1) := by decide +kernel
theorem dJ13_bitCount_95d88_34 : decode cJ13_bitCount_95d88 34 = .ok (.lload_n 0, 1) := by decide +kernel
theorem dJ13_bitCount_95d88_35 : decode cJ13_bitCount_95d88 35 = .ok (.lload_n 0, 1) := by decide +kernel
theorem dJ13_bitCount_95d88_36 : decode cJ13_bitCount_95d88 36 = .ok (.bipush 8, 2) := by decide +kernel
theorem dJ13_bitCount_95d88_38 : decode cJ13_bitCount_95d88 38 = .ok (.lushr, 1) := by decide +kernel
theorem dJ13_bitCount_95d88_39 : decode cJ13_bitCount_95d88 39 = .ok (.ladd, 1) := by decide +kernel
theorem dJ13_bitCount_95d88_4 : decode cJ13_bitCount_95d88 4 = .ok (.ldc2_w 314, 3) := by decide +kernel
theorem dJ13_bitCount_95d88_40 : decode cJ13_bitCount_95d88 40 = .ok (.lstore_n 0, 1) := by decide +kernel
theorem dJ13_bitCount_95d88_41 : decode cJ13_bitCount_95d88 41 = .ok (.lload_n 0, 1) := by decide +kernel
theorem dJ13_bitCount_95d88_42 : decode cJ13_bitCount_95d88 42 = .ok (.lload_n 0, 1) := by decide +kernel
theorem dJ13_bitCount_95d88_43 : decode cJ13_bitCount_95d88 43 = .ok (.bipush 16, 2) := by decide +kernel
theorem dJ13_bitCount_95d88_45 : decode cJ13_bitCount_95d88 45 = .ok (.lushr, 1) := by decide +kernel
theorem dJ13_bitCount_95d88_46 : decode cJ13_bitCount_95d88 46 = .ok (.ladd, 1) := by decide +kernel
theorem dJ13_bitCount_95d88_47 : decode cJ13_bitCount_95d88 47 = .ok (.lstore_n 0, 1) := by decide +kernel
theorem dJ13_bitCount_95d88_48 : decode cJ13_bitCount_95d88 48 = .ok (.lload_n 0, 1) := by decide +kernel
theorem dJ13_bitCount_95d88_49 : decode cJ13_bitCount_95d88 49 = .ok (.lload_n 0, 1) := by decide +kernel
theorem dJ13_bitCount_95d88_50 : decode cJ13_bitCount_95d88 50 = .ok (.bipush 32, 2) := by decide +kernel
theorem dJ13_bitCount_95d88_52 : decode cJ13_bitCount_95d88 52 = .ok (.lushr, 1) := by decide +kernel
theorem dJ13_bitCount_95d88_53 : decode cJ13_bitCount_95d88 53 = .ok (.ladd, 1) := by decide +kernel
theorem dJ13_bitCount_95d88_54 : decode cJ13_bitCount_95d88 54 = .ok (.lstore_n 0, 1) := by decide +kernel
theorem dJ13_bitCount_95d88_55 : decode cJ13_bitCount_95d88 55 = .ok (.lload_n 0, 1) := by decide +kernel
theorem dJ13_bitCount_95d88_56 : decode cJ13_bitCount_95d88 56 = .ok (.l2i, 1) := by decide +kernel
theorem dJ13_bitCount_95d88_57 : decode cJ13_bitCount_95d88 57 = .ok (.bipush 127, 2) := by decide +kernel
theorem dJ13_bitCount_95d88_59 : decode cJ13_bitCount_95d88 59 = .ok (.iand, 1) := by decide +kernel
theorem dJ13_bitCount_95d88_60 : decode cJ13_bitCount_95d88 60 = .ok (.ireturn, 1) := by decide +kernel
theorem dJ13_bitCount_95d88_7 : decode cJ13_bitCount_95d88 7 = .ok (.land, 1) := by decide +kernel
theorem dJ13_bitCount_95d88_8 : decode cJ13_bitCount_95d88 8 = .ok (.lsub, 1) := by decide +kernel
theorem dJ13_bitCount_95d88_9 : decode cJ13_bitCount_95d88 9 = .ok (.lstore_n 0, 1) := by decide +kernel
theorem dJ9_floorMod_7cf53_0 : decode cJ9_floorMod_7cf53 0 = .ok (.iload_n 0, 1) := by decide +kernel
theorem dJ9_floorMod_7cf53_1 : decode cJ9_floorMod_7cf53 1 = .ok (.iload_n 1, 1) := by decide +kernel
theorem dJ9_floorMod_7cf53_10 : decode cJ9_floorMod_7cf53 10 = .ok (.iload_n 2, 1) := by decide +kernel
theorem dJ9_floorMod_7cf53_11 : decode cJ9_floorMod_7cf53 11 = .ok (.ifCond .eq 7, 3) := by decide +kernel
theorem dJ9_floorMod_7cf53_14 : decode cJ9_floorMod_7cf53 14 = .ok (.iload_n 2, 1) := by decide +kernel
theorem dJ9_floorMod_7cf53_15 : decode cJ9_floorMod_7cf53 15 = .ok (.iload_n 1, 1) := by decide +kernel
theorem dJ9_floorMod_7cf53_16 : decode cJ9_floorMod_7cf53 16 = .ok (.iadd, 1) := by decide +kernel
theorem dJ9_floorMod_7cf53_17 : decode cJ9_floorMod_7cf53 17 = .ok (.ireturn, 1) := by decide +kernel
theorem dJ9_floorMod_7cf53_18 : decode cJ9_floorMod_7cf53 18 = .ok (.iload_n 2, 1) := by decide +kernel
theorem dJ9_floorMod_7cf53_19 : decode cJ9_floorMod_7cf53 19 = .ok (.ireturn, 1) := by decide +kernel
theorem dJ9_floorMod_7cf53_2 : decode cJ9_floorMod_7cf53 2 = .ok (.irem, 1) := by decide +kernel
theorem dJ9_floorMod_7cf53_3 : decode cJ9_floorMod_7cf53 3 = .ok (.istore_n 2, 1) := by decide +kernel
theorem dJ9_floorMod_7cf53_4 : decode cJ9_floorMod_7cf53 4 = .ok (.iload_n 0, 1) := by decide +kernel
theorem dJ9_floorMod_7cf53_5 : decode cJ9_floorMod_7cf53 5 = .ok (.iload_n 1, 1) := by decide +kernel
theorem dJ9_floorMod_7cf53_6 : decode cJ9_floorMod_7cf53 6 = .ok (.ixor, 1) := by decide +kernel
theorem dJ9_floorMod_7cf53_7 : decode cJ9_floorMod_7cf53 7 = .ok (.ifCond .ge 11, 3) := by decide +kernel
theorem dX0_addPart_0 : decode cX0_addPart 0 = .ok (.aload_n 0, 1) := by decide +kernel
theorem dX0_addPart_1 : decode cX0_addPart 1 = .ok (.iload_n 1, 1) := by decide +kernel
theorem dX0_addPart_10 : decode cX0_addPart 10 = .ok (.invokevirtual 53, 3) := by decide +kernel
theorem dX0_addPart_13 : decode cX0_addPart 13 = .ok (.ifCond .eq 14, 3) := by decide +kernel
theorem dX0_addPart_16 : decode cX0_addPart 16 = .ok (.aload_n 0, 1) := by decide +kernel
theorem dX0_addPart_17 : decode cX0_addPart 17 = .ok (.getfield 31, 3) := by decide +kernel
theorem dX0_addPart_2 : decode cX0_addPart 2 = .ok (.invokevirtual 53, 3) := by decide +kernel
theorem dX0_addPart_20 : decode cX0_addPart 20 = .ok (.iload_n 1, 1) := by decide +kernel
theorem dX0_addPart_21 : decode cX0_addPart 21 = .ok (.iaload, 1) := by decide +kernel
theorem dX0_addPart_22 : decode cX0_addPart 22 = .ok (.bipush 12, 2) := by decide +kernel
theorem dX0_addPart_24 : decode cX0_addPart 24 = .ok (.if_icmp .lt 4, 3) := by decide +kernel
theorem dX0_addPart_27 : decode cX0_addPart 27 = .ok (.return_, 1) := by decide +kernel
theorem dX0_addPart_28 : decode cX0_addPart 28 = .ok (.aload_n 0, 1) := by decide +kernel
theorem dX0_addPart_29 : decode cX0_addPart 29 = .ok (.getfield 28, 3) := by decide +kernel
theorem dX0_addPart_32 : decode cX0_addPart 32 = .ok (.iload_n 1, 1) := by decide +kernel
theorem dX0_addPart_33 : decode cX0_addPart 33 = .ok (.bipush 12, 2) := by decide +kernel
theorem dX0_addPart_35 : decode cX0_addPart 35 = .ok (.imul, 1) := by decide +kernel
theorem dX0_addPart_36 : decode cX0_addPart 36 = .ok (.aload_n 0, 1) := by decide +kernel
theorem dX0_addPart_37 : decode cX0_addPart 37 = .ok (.getfield 31, 3) := by decide +kernel
theorem dX0_addPart_40 : decode cX0_addPart 40 = .ok (.iload_n 1, 1) := by decide +kernel
theorem dX0_addPart_41 : decode cX0_addPart 41 = .ok (.iaload, 1) := by decide +kernel
theorem dX0_addPart_42 : decode cX0_addPart 42 = .ok (.iadd, 1) := by decide +kernel
theorem dX0_addPart_43 : decode cX0_addPart 43 = .ok (.iload_n 2, 1) := by decide +kernel
theorem dX0_addPart_44 : decode cX0_addPart 44 = .ok (.iastore, 1) := by decide +kernel
theorem dX0_addPart_45 : decode cX0_addPart 45 = .ok (.aload_n 0, 1) := by decide +kernel
theorem dX0_addPart_46 : decode cX0_addPart 46 = .ok (.getfield 31, 3) := by decide +kernel
theorem dX0_addPart_49 : decode cX0_addPart 49 = .ok (.iload_n 1, 1) := by decide +kernel
theorem dX0_addPart_5 : decode cX0_addPart 5 = .ok (.ifCond .eq 22, 3) := by decide +kernel
theorem dX0_addPart_50 : decode cX0_addPart 50 = .ok (.dup2, 1) := by decide +kernel
theorem dX0_addPart_51 : decode cX0_addPart 51 = .ok (.iaload, 1) := by decide +kernel
theorem dX0_addPart_52 : decode cX0_addPart 52 = .ok (.iconst 1, 1) := by decide +kernel
theorem dX0_addPart_53 : decode cX0_addPart 53 = .ok (.iadd, 1) := by decide +kernel
theorem dX0_addPart_54 : decode cX0_addPart 54 = .ok (.iastore, 1) := by decide +kernel
theorem dX0_addPart_55 : decode cX0_addPart 55 = .ok (.aload_n 0, 1) := by decide +kernel
theorem dX0_addPart_56 : decode cX0_addPart 56 = .ok (.getfield 19, 3) := by decide +kernel
theorem dX0_addPart_59 : decode cX0_addPart 59 = .ok (.iload_n 1, 1) := by decide +kernel
theorem dX0_addPart_60 : decode cX0_addPart 60 = .ok (.iaload, 1) := by decide +kernel
theorem dX0_addPart_61 : decode cX0_addPart 61 = .ok (.iconst 3, 1) := by decide +kernel
theorem dX0_addPart_62 : decode cX0_addPart 62 = .ok (.if_icmp .eq 15, 3) := by decide +kernel
theorem dX0_addPart_65 : decode cX0_addPart 65 = .ok (.aload_n 0, 1) := by decide +kernel
theorem dX0_addPart_66 : decode cX0_addPart 66 = .ok (.getfield 37, 3) := by decide +kernel
theorem dX0_addPart_69 : decode cX0_addPart 69 = .ok (.iload_n 1, 1) := by decide +kernel
theorem dX0_addPart_70 : decode cX0_addPart 70 = .ok (.dup2, 1) := by decide +kernel
theorem dX0_addPart_71 : decode cX0_addPart 71 = .ok (.laload, 1) := by decide +kernel
theorem dX0_addPart_72 : decode cX0_addPart 72 = .ok (.lconst 1, 1) := by decide +kernel
theorem dX0_addPart_73 : decode cX0_addPart 73 = .ok (.iload_n 2, 1) := by decide +kernel
theorem dX0_addPart_74 : decode cX0_addPart 74 = .ok (.lshl, 1) := by decide +kernel
theorem dX0_addPart_75 : decode cX0_addPart 75 = .ok (.lor, 1) := by decide +kernel
theorem dX0_addPart_76 : decode cX0_addPart 76 = .ok (.lastore, 1) := by decide +kernel
theorem dX0_addPart_77 : decode cX0_addPart 77 = .ok (.return_, 1) := by decide +kernel
theorem dX0_addPart_8 : decode cX0_addPart 8 = .ok (.aload_n 0, 1) := by decide +kernel
theorem dX0_addPart_9 : decode cX0_addPart 9 = .ok (.iload_n 2, 1) := by decide +kernel
theorem dX0_add_0 : decode cX0_add 0 = .ok (.aload_n 0, 1) := by decide +kernel
theorem dX0_add_1 : decode cX0_add 1 = .ok (.getfield 46, 3) := by decide +kernel
theorem dX0_add_10 : decode cX0_add 10 = .ok (.aload_n 0, 1) := by decide +kernel
theorem dX0_add_100 : decode cX0_add 100 = .ok (.lastore, 1) := by decide +kernel
theorem dX0_add_101 : decode cX0_add 101 = .ok (.aload_n 0, 1) := by decide +kernel
theorem dX0_add_102 : decode cX0_add 102 = .ok (.getfield 40, 3) := by decide +kernel
theorem dX0_add_105 : decode cX0_add 105 = .ok (.aload_n 0, 1) := by decide +kernel
theorem dX0_add_106 : decode cX0_add 106 = .ok (.getfield 46, 3) := by decide +kernel
theorem dX0_add_109 : decode cX0_add 109 = .ok (.iconst 0, 1) := by decide +kernel
theorem dX0_add_11 : decode cX0_add 11 = .ok (.getfield 9, 3) := by decide +kernel
theorem dX0_add_110 : decode cX0_add 110 = .ok (.iastore, 1) := by decide +kernel
theorem dX0_add_111 : decode cX0_add 111 = .ok (.iload 4, 2) := by decide +kernel
theorem dX0_add_113 : decode cX0_add 113 = .ok (.iconst 3, 1) := by decide +kernel
theorem dX0_add_114 : decode cX0_add 114 = .ok (.if_icmp .ne 13, 3) := by decide +kernel
theorem dX0_add_117 : decode cX0_add 117 = .ok (.aload_n 0, 1) := by decide +kernel
theorem dX0_add_118 : decode cX0_add 118 = .ok (.dup, 1) := by decide +kernel
theorem dX0_add_119 : decode cX0_add 119 = .ok (.getfield 50, 3) := by decide +kernel
theorem dX0_add_122 : decode cX0_add 122 = .ok (.iconst 1, 1) := by decide +kernel
theorem dX0_add_123 : decode cX0_add 123 = .ok (.iadd, 1) := by decide +kernel
theorem dX0_add_124 : decode cX0_add 124 = .ok (.putfield 50, 3) := by decide +kernel
theorem dX0_add_127 : decode cX0_add 127 = .ok (.aload_n 0, 1) := by decide +kernel
theorem dX0_add_128 : decode cX0_add 128 = .ok (.dup, 1) := by decide +kernel
theorem dX0_add_129 : decode cX0_add 129 = .ok (.getfield 46, 3) := by decide +kernel
theorem dX0_add_132 : decode cX0_add 132 = .ok (.iconst 1, 1) := by decide +kernel
theorem dX0_add_133 : decode cX0_add 133 = .ok (.iadd, 1) := by decide +kernel
theorem dX0_add_134 : decode cX0_add 134 = .ok (.putfield 46, 3) := by decide +kernel
theorem dX0_add_137 : decode cX0_add 137 = .ok (.return_, 1) := by decide +kernel
theorem dX0_add_14 : decode cX0_add 14 = .ok (.aload_n 0, 1) := by decide +kernel
theorem dX0_add_15 : decode cX0_add 15 = .ok (.getfield 46, 3) := by decide +kernel
theorem dX0_add_18 : decode cX0_add 18 = .ok (.lload_n 1, 1) := by decide +kernel
theorem dX0_add_19 : decode cX0_add 19 = .ok (.lastore, 1) := by decide +kernel
theorem dX0_add_20 : decode cX0_add 20 = .ok (.aload_n 0, 1) := by decide +kernel
theorem dX0_add_21 : decode cX0_add 21 = .ok (.getfield 15, 3) := by decide +kernel
theorem dX0_add_24 : decode cX0_add 24 = .ok (.aload_n 0, 1) := by decide +kernel
theorem dX0_add_25 : decode cX0_add 25 = .ok (.getfield 46, 3) := by decide +kernel
theorem dX0_add_28 : decode cX0_add 28 = .ok (.iload_n 3, 1) := by decide +kernel
theorem dX0_add_29 : decode cX0_add 29 = .ok (.iastore, 1) := by decide +kernel
theorem dX0_add_30 : decode cX0_add 30 = .ok (.aload_n 0, 1) := by decide +kernel
theorem dX0_add_31 : decode cX0_add 31 = .ok (.getfield 19, 3) := by decide +kernel
theorem dX0_add_34 : decode cX0_add 34 = .ok (.aload_n 0, 1) := by decide +kernel
theorem dX0_add_35 : decode cX0_add 35 = .ok (.getfield 46, 3) := by decide +kernel
theorem dX0_add_38 : decode cX0_add 38 = .ok (.iload 4, 2) := by decide +kernel
theorem dX0_add_4 : decode cX0_add 4 = .ok (.bipush 60, 2) := by decide +kernel
theorem dX0_add_40 : decode cX0_add 40 = .ok (.iastore, 1) := by decide +kernel
theorem dX0_add_41 : decode cX0_add 41 = .ok (.aload_n 0, 1) := by decide +kernel
theorem dX0_add_42 : decode cX0_add 42 = .ok (.getfield 22, 3) := by decide +kernel
theorem dX0_add_45 : decode cX0_add 45 = .ok (.aload_n 0, 1) := by decide +kernel
theorem dX0_add_46 : decode cX0_add 46 = .ok (.getfield 46, 3) := by decide +kernel
theorem dX0_add_49 : decode cX0_add 49 = .ok (.iconst 0, 1) := by decide +kernel
theorem dX0_add_50 : decode cX0_add 50 = .ok (.iastore, 1) := by decide +kernel
theorem dX0_add_51 : decode cX0_add 51 = .ok (.aload_n 0, 1) := by decide +kernel
theorem dX0_add_52 : decode cX0_add 52 = .ok (.getfield 25, 3) := by decide +kernel
theorem dX0_add_55 : decode cX0_add 55 = .ok (.aload_n 0, 1) := by decide +kernel
theorem dX0_add_56 : decode cX0_add 56 = .ok (.getfield 46, 3) := by decide +kernel
theorem dX0_add_59 : decode cX0_add 59 = .ok (.iload 4, 2) := by decide +kernel
theorem dX0_add_6 : decode cX0_add 6 = .ok (.if_icmp .lt 4, 3) := by decide +kernel
theorem dX0_add_61 : decode cX0_add 61 = .ok (.iconst 2, 1) := by decide +kernel
theorem dX0_add_62 : decode cX0_add 62 = .ok (.if_icmp .ne 7, 3) := by decide +kernel
theorem dX0_add_65 : decode cX0_add 65 = .ok (.iconst 1, 1) := by decide +kernel
theorem dX0_add_66 : decode cX0_add 66 = .ok (.goto 4, 3) := by decide +kernel
theorem dX0_add_69 : decode cX0_add 69 = .ok (.iconst 0, 1) := by decide +kernel
theorem dX0_add_70 : decode cX0_add 70 = .ok (.iastore, 1) := by decide +kernel
theorem dX0_add_71 : decode cX0_add 71 = .ok (.aload_n 0, 1) := by decide +kernel
theorem dX0_add_72 : decode cX0_add 72 = .ok (.getfield 31, 3) := by decide +kernel
theorem dX0_add_75 : decode cX0_add 75 = .ok (.aload_n 0, 1) := by decide +kernel
theorem dX0_add_76 : decode cX0_add 76 = .ok (.getfield 46, 3) := by decide +kernel
theorem dX0_add_79 : decode cX0_add 79 = .ok (.iconst 0, 1) := by decide +kernel
theorem dX0_add_80 : decode cX0_add 80 = .ok (.iastore, 1) := by decide +kernel
theorem dX0_add_81 : decode cX0_add 81 = .ok (.aload_n 0, 1) := by decide +kernel
theorem dX0_add_82 : decode cX0_add 82 = .ok (.getfield 34, 3) := by decide +kernel
theorem dX0_add_85 : decode cX0_add 85 = .ok (.aload_n 0, 1) := by decide +kernel
theorem dX0_add_86 : decode cX0_add 86 = .ok (.getfield 46, 3) := by decide +kernel
theorem dX0_add_89 : decode cX0_add 89 = .ok (.iconst 0, 1) := by decide +kernel
theorem dX0_add_9 : decode cX0_add 9 = .ok (.return_, 1) := by decide +kernel
theorem dX0_add_90 : decode cX0_add 90 = .ok (.iastore, 1) := by decide +kernel
theorem dX0_add_91 : decode cX0_add 91 = .ok (.aload_n 0, 1) := by decide +kernel
theorem dX0_add_92 : decode cX0_add 92 = .ok (.getfield 37, 3) := by decide +kernel
theorem dX0_add_95 : decode cX0_add 95 = .ok (.aload_n 0, 1) := by decide +kernel
theorem dX0_add_96 : decode cX0_add 96 = .ok (.getfield 46, 3) := by decide +kernel
theorem dX0_add_99 : decode cX0_add 99 = .ok (.lconst 0, 1) := by decide +kernel
theorem dX0_arrange_0 : decode cX0_arrange 0 = .ok (.lconst 0, 1) := by decide +kernel
theorem dX0_arrange_1 : decode cX0_arrange 1 = .ok (.lstore_n 1, 1) := by decide +kernel
theorem dX0_arrange_10 : decode cX0_arrange 10 = .ok (.getfield 46, 3) := by decide +kernel
theorem dX0_arrange_100 : decode cX0_arrange 100 = .ok (.getfield 40, 3) := by decide +kernel
theorem dX0_arrange_103 : decode cX0_arrange 103 = .ok (.iload 5, 2) := by decide +kernel
theorem dX0_arrange_105 : decode cX0_arrange 105 = .ok (.aload_n 0, 1) := by decide +kernel
theorem dX0_arrange_106 : decode cX0_arrange 106 = .ok (.aload_n 0, 1) := by decide +kernel
theorem dX0_arrange_107 : decode cX0_arrange 107 = .ok (.getfield 37, 3) := by decide +kernel
theorem dX0_arrange_110 : decode cX0_arrange 110 = .ok (.iload 5, 2) := by decide +kernel
theorem dX0_arrange_112 : decode cX0_arrange 112 = .ok (.laload, 1) := by decide +kernel
theorem dX0_arrange_113 : decode cX0_arrange 113 = .ok (.invokevirtual 71, 3) := by decide +kernel
theorem dX0_arrange_116 : decode cX0_arrange 116 = .ok (.iastore, 1) := by decide +kernel
theorem dX0_arrange_117 : decode cX0_arrange 117 = .ok (.iinc 5 1, 3) := by decide +kernel
theorem dX0_arrange_120 : decode cX0_arrange 120 = .ok (.goto (-93), 3) := by decide +kernel
theorem dX0_arrange_123 : decode cX0_arrange 123 = .ok (.iinc 4 1, 3) := by decide +kernel
theorem dX0_arrange_126 : decode cX0_arrange 126 = .ok (.goto (-119), 3) := by decide +kernel
theorem dX0_arrange_129 : decode cX0_arrange 129 = .ok (.return_, 1) := by decide +kernel
theorem dX0_arrange_13 : decode cX0_arrange 13 = .ok (.if_icmp .ge 116, 3) := by decide +kernel
theorem dX0_arrange_16 : decode cX0_arrange 16 = .ok (.iload_n 3, 1) := by decide +kernel
theorem dX0_arrange_17 : decode cX0_arrange 17 = .ok (.aload_n 0, 1) := by decide +kernel
theorem dX0_arrange_18 : decode cX0_arrange 18 = .ok (.getfield 46, 3) := by decide +kernel
theorem dX0_arrange_2 : decode cX0_arrange 2 = .ok (.iconst 0, 1) := by decide +kernel
theorem dX0_arrange_21 : decode cX0_arrange 21 = .ok (.if_icmp .ge 108, 3) := by decide +kernel
theorem dX0_arrange_24 : decode cX0_arrange 24 = .ok (.iconst 0, 1) := by decide +kernel
theorem dX0_arrange_25 : decode cX0_arrange 25 = .ok (.istore 5, 2) := by decide +kernel
theorem dX0_arrange_27 : decode cX0_arrange 27 = .ok (.iload 5, 2) := by decide +kernel
theorem dX0_arrange_29 : decode cX0_arrange 29 = .ok (.aload_n 0, 1) := by decide +kernel
theorem dX0_arrange_3 : decode cX0_arrange 3 = .ok (.istore_n 3, 1) := by decide +kernel
theorem dX0_arrange_30 : decode cX0_arrange 30 = .ok (.getfield 46, 3) := by decide +kernel
theorem dX0_arrange_33 : decode cX0_arrange 33 = .ok (.if_icmp .ge 90, 3) := by decide +kernel
theorem dX0_arrange_36 : decode cX0_arrange 36 = .ok (.iload_n 3, 1) := by decide +kernel
theorem dX0_arrange_37 : decode cX0_arrange 37 = .ok (.aload_n 0, 1) := by decide +kernel
theorem dX0_arrange_38 : decode cX0_arrange 38 = .ok (.getfield 46, 3) := by decide +kernel
theorem dX0_arrange_4 : decode cX0_arrange 4 = .ok (.iconst 0, 1) := by decide +kernel
theorem dX0_arrange_41 : decode cX0_arrange 41 = .ok (.if_icmp .ge 82, 3) := by decide +kernel
theorem dX0_arrange_44 : decode cX0_arrange 44 = .ok (.lload_n 1, 1) := by decide +kernel
theorem dX0_arrange_45 : decode cX0_arrange 45 = .ok (.iload 5, 2) := by decide +kernel
theorem dX0_arrange_47 : decode cX0_arrange 47 = .ok (.lushr, 1) := by decide +kernel
theorem dX0_arrange_48 : decode cX0_arrange 48 = .ok (.lconst 1, 1) := by decide +kernel
theorem dX0_arrange_49 : decode cX0_arrange 49 = .ok (.land, 1) := by decide +kernel
theorem dX0_arrange_5 : decode cX0_arrange 5 = .ok (.istore 4, 2) := by decide +kernel
theorem dX0_arrange_50 : decode cX0_arrange 50 = .ok (.lconst 1, 1) := by decide +kernel
theorem dX0_arrange_51 : decode cX0_arrange 51 = .ok (.lcmp, 1) := by decide +kernel
theorem dX0_arrange_52 : decode cX0_arrange 52 = .ok (.ifCond .ne 7, 3) := by decide +kernel
theorem dX0_arrange_55 : decode cX0_arrange 55 = .ok (.iconst 1, 1) := by decide +kernel
theorem dX0_arrange_56 : decode cX0_arrange 56 = .ok (.goto 4, 3) := by decide +kernel
theorem dX0_arrange_59 : decode cX0_arrange 59 = .ok (.iconst 0, 1) := by decide +kernel
theorem dX0_arrange_60 : decode cX0_arrange 60 = .ok (.istore 6, 2) := by decide +kernel
theorem dX0_arrange_62 : decode cX0_arrange 62 = .ok (.iload 6, 2) := by decide +kernel
theorem dX0_arrange_64 : decode cX0_arrange 64 = .ok (.ifCond .ne 53, 3) := by decide +kernel
theorem dX0_arrange_67 : decode cX0_arrange 67 = .ok (.aload_n 0, 1) := by decide +kernel
theorem dX0_arrange_68 : decode cX0_arrange 68 = .ok (.iload 5, 2) := by decide +kernel
theorem dX0_arrange_7 : decode cX0_arrange 7 = .ok (.iload 4, 2) := by decide +kernel
theorem dX0_arrange_70 : decode cX0_arrange 70 = .ok (.lload_n 1, 1) := by decide +kernel
theorem dX0_arrange_71 : decode cX0_arrange 71 = .ok (.ldc2_w 65, 3) := by decide +kernel
theorem dX0_arrange_74 : decode cX0_arrange 74 = .ok (.lxor, 1) := by decide +kernel
theorem dX0_arrange_75 : decode cX0_arrange 75 = .ok (.invokevirtual 67, 3) := by decide +kernel
theorem dX0_arrange_78 : decode cX0_arrange 78 = .ok (.ifCond .ne 39, 3) := by decide +kernel
theorem dX0_arrange_81 : decode cX0_arrange 81 = .ok (.aload_n 0, 1) := by decide +kernel
theorem dX0_arrange_82 : decode cX0_arrange 82 = .ok (.getfield 43, 3) := by decide +kernel
theorem dX0_arrange_85 : decode cX0_arrange 85 = .ok (.iload_n 3, 1) := by decide +kernel
theorem dX0_arrange_86 : decode cX0_arrange 86 = .ok (.iload 5, 2) := by decide +kernel
theorem dX0_arrange_88 : decode cX0_arrange 88 = .ok (.iastore, 1) := by decide +kernel
theorem dX0_arrange_89 : decode cX0_arrange 89 = .ok (.iinc 3 1, 3) := by decide +kernel
theorem dX0_arrange_9 : decode cX0_arrange 9 = .ok (.aload_n 0, 1) := by decide +kernel
theorem dX0_arrange_92 : decode cX0_arrange 92 = .ok (.lload_n 1, 1) := by decide +kernel
theorem dX0_arrange_93 : decode cX0_arrange 93 = .ok (.lconst 1, 1) := by decide +kernel
theorem dX0_arrange_94 : decode cX0_arrange 94 = .ok (.iload 5, 2) := by decide +kernel
theorem dX0_arrange_96 : decode cX0_arrange 96 = .ok (.lshl, 1) := by decide +kernel
theorem dX0_arrange_97 : decode cX0_arrange 97 = .ok (.lor, 1) := by decide +kernel
theorem dX0_arrange_98 : decode cX0_arrange 98 = .ok (.lstore_n 1, 1) := by decide +kernel
theorem dX0_arrange_99 : decode cX0_arrange 99 = .ok (.aload_n 0, 1) := by decide +kernel
theorem dX0_beginDriver_0 : decode cX0_beginDriver 0 = .ok (.aload_n 0, 1) := by decide +kernel
theorem dX0_beginDriver_1 : decode cX0_beginDriver 1 = .ok (.iload_n 1, 1) := by decide +kernel
theorem dX0_beginDriver_12 : decode cX0_beginDriver 12 = .ok (.aload_n 0, 1) := by decide +kernel
theorem dX0_beginDriver_13 : decode cX0_beginDriver 13 = .ok (.getfield 34, 3) := by decide +kernel
theorem dX0_beginDriver_16 : decode cX0_beginDriver 16 = .ok (.iload_n 1, 1) := by decide +kernel
theorem dX0_beginDriver_17 : decode cX0_beginDriver 17 = .ok (.dup2, 1) := by decide +kernel
theorem dX0_beginDriver_18 : decode cX0_beginDriver 18 = .ok (.iaload, 1) := by decide +kernel
theorem dX0_beginDriver_19 : decode cX0_beginDriver 19 = .ok (.iconst 1, 1) := by decide +kernel
theorem dX0_beginDriver_2 : decode cX0_beginDriver 2 = .ok (.invokevirtual 53, 3) := by decide +kernel
theorem dX0_beginDriver_20 : decode cX0_beginDriver 20 = .ok (.aload_n 0, 1) := by decide +kernel
theorem dX0_beginDriver_21 : decode cX0_beginDriver 21 = .ok (.iload_n 1, 1) := by decide +kernel
theorem dX0_beginDriver_22 : decode cX0_beginDriver 22 = .ok (.invokevirtual 61, 3) := by decide +kernel
theorem dX0_beginDriver_25 : decode cX0_beginDriver 25 = .ok (.ishl, 1) := by decide +kernel
theorem dX0_beginDriver_26 : decode cX0_beginDriver 26 = .ok (.ior, 1) := by decide +kernel
theorem dX0_beginDriver_27 : decode cX0_beginDriver 27 = .ok (.iastore, 1) := by decide +kernel
theorem dX0_beginDriver_28 : decode cX0_beginDriver 28 = .ok (.return_, 1) := by decide +kernel
theorem dX0_beginDriver_5 : decode cX0_beginDriver 5 = .ok (.ifCond .eq 23, 3) := by decide +kernel
theorem dX0_beginDriver_8 : decode cX0_beginDriver 8 = .ok (.iload_n 2, 1) := by decide +kernel
theorem dX0_beginDriver_9 : decode cX0_beginDriver 9 = .ok (.ifCond .eq 19, 3) := by decide +kernel
theorem dX0_clear_0 : decode cX0_clear 0 = .ok (.aload_n 0, 1) := by decide +kernel
theorem dX0_clear_1 : decode cX0_clear 1 = .ok (.iconst 0, 1) := by decide +kernel
theorem dX0_clear_10 : decode cX0_clear 10 = .ok (.return_, 1) := by decide +kernel
theorem dX0_clear_2 : decode cX0_clear 2 = .ok (.putfield 46, 3) := by decide +kernel
theorem dX0_clear_5 : decode cX0_clear 5 = .ok (.aload_n 0, 1) := by decide +kernel
theorem dX0_clear_6 : decode cX0_clear 6 = .ok (.iconst 0, 1) := by decide +kernel
theorem dX0_clear_7 : decode cX0_clear 7 = .ok (.putfield 50, 3) := by decide +kernel
theorem dX0_dependsOn_0 : decode cX0_dependsOn 0 = .ok (.aload_n 0, 1) := by decide +kernel
theorem dX0_dependsOn_1 : decode cX0_dependsOn 1 = .ok (.getfield 37, 3) := by decide +kernel
theorem dX0_dependsOn_10 : decode cX0_dependsOn 10 = .ok (.ifCond .eq 7, 3) := by decide +kernel
theorem dX0_dependsOn_13 : decode cX0_dependsOn 13 = .ok (.iconst 1, 1) := by decide +kernel
theorem dX0_dependsOn_14 : decode cX0_dependsOn 14 = .ok (.goto 4, 3) := by decide +kernel
theorem dX0_dependsOn_17 : decode cX0_dependsOn 17 = .ok (.iconst 0, 1) := by decide +kernel
theorem dX0_dependsOn_18 : decode cX0_dependsOn 18 = .ok (.ireturn, 1) := by decide +kernel
theorem dX0_dependsOn_4 : decode cX0_dependsOn 4 = .ok (.iload_n 1, 1) := by decide +kernel
theorem dX0_dependsOn_5 : decode cX0_dependsOn 5 = .ok (.laload, 1) := by decide +kernel
theorem dX0_dependsOn_6 : decode cX0_dependsOn 6 = .ok (.lload_n 2, 1) := by decide +kernel
theorem dX0_dependsOn_7 : decode cX0_dependsOn 7 = .ok (.land, 1) := by decide +kernel
theorem dX0_dependsOn_8 : decode cX0_dependsOn 8 = .ok (.lconst 0, 1) := by decide +kernel
theorem dX0_dependsOn_9 : decode cX0_dependsOn 9 = .ok (.lcmp, 1) := by decide +kernel
theorem dX0_find_0 : decode cX0_find 0 = .ok (.iconst 0, 1) := by decide +kernel
theorem dX0_find_1 : decode cX0_find 1 = .ok (.istore_n 3, 1) := by decide +kernel
theorem dX0_find_10 : decode cX0_find 10 = .ok (.aload_n 0, 1) := by decide +kernel
theorem dX0_find_11 : decode cX0_find 11 = .ok (.getfield 9, 3) := by decide +kernel
theorem dX0_find_14 : decode cX0_find 14 = .ok (.iload_n 3, 1) := by decide +kernel
theorem dX0_find_15 : decode cX0_find 15 = .ok (.laload, 1) := by decide +kernel
theorem dX0_find_16 : decode cX0_find 16 = .ok (.lload_n 1, 1) := by decide +kernel
theorem dX0_find_17 : decode cX0_find 17 = .ok (.lcmp, 1) := by decide +kernel
theorem dX0_find_18 : decode cX0_find 18 = .ok (.ifCond .ne 5, 3) := by decide +kernel
theorem dX0_find_2 : decode cX0_find 2 = .ok (.iload_n 3, 1) := by decide +kernel
theorem dX0_find_21 : decode cX0_find 21 = .ok (.iload_n 3, 1) := by decide +kernel
theorem dX0_find_22 : decode cX0_find 22 = .ok (.ireturn, 1) := by decide +kernel
theorem dX0_find_23 : decode cX0_find 23 = .ok (.iinc 3 1, 3) := by decide +kernel
theorem dX0_find_26 : decode cX0_find 26 = .ok (.goto (-24), 3) := by decide +kernel
theorem dX0_find_29 : decode cX0_find 29 = .ok (.iconst (-1), 1) := by decide +kernel
theorem dX0_find_3 : decode cX0_find 3 = .ok (.aload_n 0, 1) := by decide +kernel
theorem dX0_find_30 : decode cX0_find 30 = .ok (.ireturn, 1) := by decide +kernel
theorem dX0_find_4 : decode cX0_find 4 = .ok (.getfield 46, 3) := by decide +kernel
theorem dX0_find_7 : decode cX0_find 7 = .ok (.if_icmp .ge 22, 3) := by decide +kernel
theorem dX0_has_0 : decode cX0_has 0 = .ok (.iload_n 1, 1) := by decide +kernel
theorem dX0_has_1 : decode cX0_has 1 = .ok (.ifCond .lt 15, 3) := by decide +kernel
theorem dX0_has_12 : decode cX0_has 12 = .ok (.iconst 1, 1) := by decide +kernel
theorem dX0_has_13 : decode cX0_has 13 = .ok (.goto 4, 3) := by decide +kernel
theorem dX0_has_16 : decode cX0_has 16 = .ok (.iconst 0, 1) := by decide +kernel
theorem dX0_has_17 : decode cX0_has 17 = .ok (.ireturn, 1) := by decide +kernel
theorem dX0_has_4 : decode cX0_has 4 = .ok (.iload_n 1, 1) := by decide +kernel
theorem dX0_has_5 : decode cX0_has 5 = .ok (.aload_n 0, 1) := by decide +kernel
theorem dX0_has_6 : decode cX0_has 6 = .ok (.getfield 46, 3) := by decide +kernel
theorem dX0_has_9 : decode cX0_has 9 = .ok (.if_icmp .ge 7, 3) := by decide +kernel
theorem dX0_isKind_0 : decode cX0_isKind 0 = .ok (.aload_n 0, 1) := by decide +kernel
theorem dX0_isKind_1 : decode cX0_isKind 1 = .ok (.iload_n 1, 1) := by decide +kernel
theorem dX0_isKind_12 : decode cX0_isKind 12 = .ok (.iload_n 1, 1) := by decide +kernel
theorem dX0_isKind_13 : decode cX0_isKind 13 = .ok (.iaload, 1) := by decide +kernel
theorem dX0_isKind_14 : decode cX0_isKind 14 = .ok (.iload_n 2, 1) := by decide +kernel
theorem dX0_isKind_15 : decode cX0_isKind 15 = .ok (.if_icmp .ne 7, 3) := by decide +kernel
theorem dX0_isKind_18 : decode cX0_isKind 18 = .ok (.iconst 1, 1) := by decide +kernel
theorem dX0_isKind_19 : decode cX0_isKind 19 = .ok (.goto 4, 3) := by decide +kernel
theorem dX0_isKind_2 : decode cX0_isKind 2 = .ok (.invokevirtual 53, 3) := by decide +kernel
theorem dX0_isKind_22 : decode cX0_isKind 22 = .ok (.iconst 0, 1) := by decide +kernel
theorem dX0_isKind_23 : decode cX0_isKind 23 = .ok (.ireturn, 1) := by decide +kernel
theorem dX0_isKind_5 : decode cX0_isKind 5 = .ok (.ifCond .eq 17, 3) := by decide +kernel
theorem dX0_isKind_8 : decode cX0_isKind 8 = .ok (.aload_n 0, 1) := by decide +kernel
theorem dX0_isKind_9 : decode cX0_isKind 9 = .ok (.getfield 19, 3) := by decide +kernel
theorem dX0_isLow_0 : decode cX0_isLow 0 = .ok (.aload_n 0, 1) := by decide +kernel
theorem dX0_isLow_1 : decode cX0_isLow 1 = .ok (.getfield 34, 3) := by decide +kernel
theorem dX0_isLow_10 : decode cX0_isLow 10 = .ok (.iconst 1, 1) := by decide +kernel
theorem dX0_isLow_11 : decode cX0_isLow 11 = .ok (.if_icmp .ne 7, 3) := by decide +kernel
theorem dX0_isLow_14 : decode cX0_isLow 14 = .ok (.iconst 1, 1) := by decide +kernel
theorem dX0_isLow_15 : decode cX0_isLow 15 = .ok (.goto 4, 3) := by decide +kernel
theorem dX0_isLow_18 : decode cX0_isLow 18 = .ok (.iconst 0, 1) := by decide +kernel
theorem dX0_isLow_19 : decode cX0_isLow 19 = .ok (.ireturn, 1) := by decide +kernel
theorem dX0_isLow_4 : decode cX0_isLow 4 = .ok (.iload_n 1, 1) := by decide +kernel
theorem dX0_isLow_5 : decode cX0_isLow 5 = .ok (.iaload, 1) := by decide +kernel
theorem dX0_isLow_6 : decode cX0_isLow 6 = .ok (.iload_n 2, 1) := by decide +kernel
theorem dX0_isLow_7 : decode cX0_isLow 7 = .ok (.ishr, 1) := by decide +kernel
theorem dX0_isLow_8 : decode cX0_isLow 8 = .ok (.iconst 1, 1) := by decide +kernel
theorem dX0_isLow_9 : decode cX0_isLow 9 = .ok (.iand, 1) := by decide +kernel
theorem dX0_isSource_0 : decode cX0_isSource 0 = .ok (.aload_n 0, 1) := by decide +kernel
theorem dX0_isSource_1 : decode cX0_isSource 1 = .ok (.iload_n 1, 1) := by decide +kernel
theorem dX0_isSource_10 : decode cX0_isSource 10 = .ok (.iload_n 1, 1) := by decide +kernel
theorem dX0_isSource_11 : decode cX0_isSource 11 = .ok (.iconst 3, 1) := by decide +kernel
theorem dX0_isSource_12 : decode cX0_isSource 12 = .ok (.invokevirtual 57, 3) := by decide +kernel
theorem dX0_isSource_15 : decode cX0_isSource 15 = .ok (.ifCond .eq 7, 3) := by decide +kernel
theorem dX0_isSource_18 : decode cX0_isSource 18 = .ok (.iconst 1, 1) := by decide +kernel
theorem dX0_isSource_19 : decode cX0_isSource 19 = .ok (.goto 4, 3) := by decide +kernel
theorem dX0_isSource_2 : decode cX0_isSource 2 = .ok (.iconst 0, 1) := by decide +kernel
theorem dX0_isSource_22 : decode cX0_isSource 22 = .ok (.iconst 0, 1) := by decide +kernel
theorem dX0_isSource_23 : decode cX0_isSource 23 = .ok (.ireturn, 1) := by decide +kernel
theorem dX0_isSource_3 : decode cX0_isSource 3 = .ok (.invokevirtual 57, 3) := by decide +kernel
theorem dX0_isSource_6 : decode cX0_isSource 6 = .ok (.ifCond .ne 12, 3) := by decide +kernel
theorem dX0_isSource_9 : decode cX0_isSource 9 = .ok (.aload_n 0, 1) := by decide +kernel
theorem dX0_levelAbove_0 : decode cX0_levelAbove 0 = .ok (.iconst 0, 1) := by decide +kernel
theorem dX0_levelAbove_1 : decode cX0_levelAbove 1 = .ok (.istore_n 3, 1) := by decide +kernel
theorem dX0_levelAbove_11 : decode cX0_levelAbove 11 = .ok (.if_icmp .ge 34, 3) := by decide +kernel
theorem dX0_levelAbove_14 : decode cX0_levelAbove 14 = .ok (.lload_n 1, 1) := by decide +kernel
theorem dX0_levelAbove_15 : decode cX0_levelAbove 15 = .ok (.iload 4, 2) := by decide +kernel
theorem dX0_levelAbove_17 : decode cX0_levelAbove 17 = .ok (.lushr, 1) := by decide +kernel
theorem dX0_levelAbove_18 : decode cX0_levelAbove 18 = .ok (.lconst 1, 1) := by decide +kernel
theorem dX0_levelAbove_19 : decode cX0_levelAbove 19 = .ok (.land, 1) := by decide +kernel
theorem dX0_levelAbove_2 : decode cX0_levelAbove 2 = .ok (.iconst 0, 1) := by decide +kernel
theorem dX0_levelAbove_20 : decode cX0_levelAbove 20 = .ok (.lconst 1, 1) := by decide +kernel
theorem dX0_levelAbove_21 : decode cX0_levelAbove 21 = .ok (.lcmp, 1) := by decide +kernel
theorem dX0_levelAbove_22 : decode cX0_levelAbove 22 = .ok (.ifCond .ne 17, 3) := by decide +kernel
theorem dX0_levelAbove_25 : decode cX0_levelAbove 25 = .ok (.iload_n 3, 1) := by decide +kernel
theorem dX0_levelAbove_26 : decode cX0_levelAbove 26 = .ok (.aload_n 0, 1) := by decide +kernel
theorem dX0_levelAbove_27 : decode cX0_levelAbove 27 = .ok (.getfield 40, 3) := by decide +kernel
theorem dX0_levelAbove_3 : decode cX0_levelAbove 3 = .ok (.istore 4, 2) := by decide +kernel
theorem dX0_levelAbove_30 : decode cX0_levelAbove 30 = .ok (.iload 4, 2) := by decide +kernel
theorem dX0_levelAbove_32 : decode cX0_levelAbove 32 = .ok (.iaload, 1) := by decide +kernel
theorem dX0_levelAbove_33 : decode cX0_levelAbove 33 = .ok (.iconst 1, 1) := by decide +kernel
theorem dX0_levelAbove_34 : decode cX0_levelAbove 34 = .ok (.iadd, 1) := by decide +kernel
theorem dX0_levelAbove_35 : decode cX0_levelAbove 35 = .ok (.invokestatic 75, 3) := by decide +kernel
theorem dX0_levelAbove_38 : decode cX0_levelAbove 38 = .ok (.istore_n 3, 1) := by decide +kernel
theorem dX0_levelAbove_39 : decode cX0_levelAbove 39 = .ok (.iinc 4 1, 3) := by decide +kernel
theorem dX0_levelAbove_42 : decode cX0_levelAbove 42 = .ok (.goto (-37), 3) := by decide +kernel
theorem dX0_levelAbove_45 : decode cX0_levelAbove 45 = .ok (.iload_n 3, 1) := by decide +kernel
theorem dX0_levelAbove_46 : decode cX0_levelAbove 46 = .ok (.ireturn, 1) := by decide +kernel
theorem dX0_levelAbove_5 : decode cX0_levelAbove 5 = .ok (.iload 4, 2) := by decide +kernel
theorem dX0_levelAbove_7 : decode cX0_levelAbove 7 = .ok (.aload_n 0, 1) := by decide +kernel
theorem dX0_levelAbove_8 : decode cX0_levelAbove 8 = .ok (.getfield 46, 3) := by decide +kernel
theorem dX0_part_0 : decode cX0_part 0 = .ok (.aload_n 0, 1) := by decide +kernel
theorem dX0_part_1 : decode cX0_part 1 = .ok (.getfield 28, 3) := by decide +kernel
theorem dX0_part_10 : decode cX0_part 10 = .ok (.iaload, 1) := by decide +kernel
theorem dX0_part_11 : decode cX0_part 11 = .ok (.ireturn, 1) := by decide +kernel
theorem dX0_part_4 : decode cX0_part 4 = .ok (.iload_n 1, 1) := by decide +kernel
theorem dX0_part_5 : decode cX0_part 5 = .ok (.bipush 12, 2) := by decide +kernel
theorem dX0_part_7 : decode cX0_part 7 = .ok (.imul, 1) := by decide +kernel
theorem dX0_part_8 : decode cX0_part 8 = .ok (.iload_n 2, 1) := by decide +kernel
theorem dX0_part_9 : decode cX0_part 9 = .ok (.iadd, 1) := by decide +kernel
theorem dX0_size_0 : decode cX0_size 0 = .ok (.aload_n 0, 1) := by decide +kernel
theorem dX0_size_1 : decode cX0_size 1 = .ok (.getfield 19, 3) := by decide +kernel
theorem dX0_size_10 : decode cX0_size 10 = .ok (.aload_n 0, 1) := by decide +kernel
theorem dX0_size_11 : decode cX0_size 11 = .ok (.getfield 31, 3) := by decide +kernel
theorem dX0_size_14 : decode cX0_size 14 = .ok (.iload_n 1, 1) := by decide +kernel
theorem dX0_size_15 : decode cX0_size 15 = .ok (.iaload, 1) := by decide +kernel
theorem dX0_size_16 : decode cX0_size 16 = .ok (.iconst 2, 1) := by decide +kernel
theorem dX0_size_17 : decode cX0_size 17 = .ok (.idiv, 1) := by decide +kernel
theorem dX0_size_18 : decode cX0_size 18 = .ok (.goto 9, 3) := by decide +kernel
theorem dX0_size_21 : decode cX0_size 21 = .ok (.aload_n 0, 1) := by decide +kernel
theorem dX0_size_22 : decode cX0_size 22 = .ok (.getfield 31, 3) := by decide +kernel
theorem dX0_size_25 : decode cX0_size 25 = .ok (.iload_n 1, 1) := by decide +kernel
theorem dX0_size_26 : decode cX0_size 26 = .ok (.iaload, 1) := by decide +kernel
theorem dX0_size_27 : decode cX0_size 27 = .ok (.ireturn, 1) := by decide +kernel
theorem dX0_size_4 : decode cX0_size 4 = .ok (.iload_n 1, 1) := by decide +kernel
theorem dX0_size_5 : decode cX0_size 5 = .ok (.iaload, 1) := by decide +kernel
theorem dX0_size_6 : decode cX0_size 6 = .ok (.iconst 1, 1) := by decide +kernel
theorem dX0_size_7 : decode cX0_size 7 = .ok (.if_icmp .ne 14, 3) := by decide +kernel
theorem dX1_advance_0 : decode cX1_advance 0 = .ok (.aload_n 0, 1) := by decide +kernel
theorem dX1_advance_1 : decode cX1_advance 1 = .ok (.getfield 23, 3) := by decide +kernel
theorem dX1_advance_102 : decode cX1_advance 102 = .ok (.aload_n 0, 1) := by decide +kernel
theorem dX1_advance_103 : decode cX1_advance 103 = .ok (.iload_n 1, 1) := by decide +kernel
theorem dX1_advance_104 : decode cX1_advance 104 = .ok (.invokestatic 48, 3) := by decide +kernel
theorem dX1_advance_107 : decode cX1_advance 107 = .ok (.ifCond .eq 7, 3) := by decide +kernel
theorem dX1_advance_11 : decode cX1_advance 11 = .ok (.aload_n 0, 1) := by decide +kernel
theorem dX1_advance_110 : decode cX1_advance 110 = .ok (.iload_n 1, 1) := by decide +kernel
theorem dX1_advance_111 : decode cX1_advance 111 = .ok (.goto 4, 3) := by decide +kernel
theorem dX1_advance_114 : decode cX1_advance 114 = .ok (.iconst 0, 1) := by decide +kernel
theorem dX1_advance_115 : decode cX1_advance 115 = .ok (.putfield 33, 3) := by decide +kernel
theorem dX1_advance_118 : decode cX1_advance 118 = .ok (.aload_n 0, 1) := by decide +kernel
theorem dX1_advance_119 : decode cX1_advance 119 = .ok (.dup, 1) := by decide +kernel
theorem dX1_advance_12 : decode cX1_advance 12 = .ok (.getfield 7, 3) := by decide +kernel
theorem dX1_advance_120 : decode cX1_advance 120 = .ok (.getfield 23, 3) := by decide +kernel
theorem dX1_advance_123 : decode cX1_advance 123 = .ok (.iconst 1, 1) := by decide +kernel
theorem dX1_advance_124 : decode cX1_advance 124 = .ok (.iadd, 1) := by decide +kernel
theorem dX1_advance_125 : decode cX1_advance 125 = .ok (.putfield 23, 3) := by decide +kernel
theorem dX1_advance_128 : decode cX1_advance 128 = .ok (.return_, 1) := by decide +kernel
theorem dX1_advance_15 : decode cX1_advance 15 = .ok (.aload_n 0, 1) := by decide +kernel
theorem dX1_advance_16 : decode cX1_advance 16 = .ok (.getfield 23, 3) := by decide +kernel
theorem dX1_advance_19 : decode cX1_advance 19 = .ok (.baload, 1) := by decide +kernel
theorem dX1_advance_20 : decode cX1_advance 20 = .ok (.invokestatic 26, 3) := by decide +kernel
theorem dX1_advance_23 : decode cX1_advance 23 = .ok (.ifCond .eq 16, 3) := by decide +kernel
theorem dX1_advance_26 : decode cX1_advance 26 = .ok (.aload_n 0, 1) := by decide +kernel
theorem dX1_advance_27 : decode cX1_advance 27 = .ok (.dup, 1) := by decide +kernel
theorem dX1_advance_28 : decode cX1_advance 28 = .ok (.getfield 23, 3) := by decide +kernel
theorem dX1_advance_31 : decode cX1_advance 31 = .ok (.iconst 1, 1) := by decide +kernel
theorem dX1_advance_32 : decode cX1_advance 32 = .ok (.iadd, 1) := by decide +kernel
theorem dX1_advance_33 : decode cX1_advance 33 = .ok (.putfield 23, 3) := by decide +kernel
theorem dX1_advance_36 : decode cX1_advance 36 = .ok (.goto (-36), 3) := by decide +kernel
theorem dX1_advance_39 : decode cX1_advance 39 = .ok (.aload_n 0, 1) := by decide +kernel
theorem dX1_advance_4 : decode cX1_advance 4 = .ok (.aload_n 0, 1) := by decide +kernel
theorem dX1_advance_40 : decode cX1_advance 40 = .ok (.aload_n 0, 1) := by decide +kernel
theorem dX1_advance_41 : decode cX1_advance 41 = .ok (.getfield 23, 3) := by decide +kernel
theorem dX1_advance_44 : decode cX1_advance 44 = .ok (.putfield 30, 3) := by decide +kernel
theorem dX1_advance_47 : decode cX1_advance 47 = .ok (.aload_n 0, 1) := by decide +kernel
theorem dX1_advance_48 : decode cX1_advance 48 = .ok (.getfield 23, 3) := by decide +kernel
theorem dX1_advance_5 : decode cX1_advance 5 = .ok (.getfield 19, 3) := by decide +kernel
theorem dX1_advance_51 : decode cX1_advance 51 = .ok (.aload_n 0, 1) := by decide +kernel
theorem dX1_advance_52 : decode cX1_advance 52 = .ok (.getfield 19, 3) := by decide +kernel
theorem dX1_advance_55 : decode cX1_advance 55 = .ok (.if_icmp .lt 9, 3) := by decide +kernel
theorem dX1_advance_58 : decode cX1_advance 58 = .ok (.aload_n 0, 1) := by decide +kernel
theorem dX1_advance_59 : decode cX1_advance 59 = .ok (.iconst 1, 1) := by decide +kernel
theorem dX1_advance_60 : decode cX1_advance 60 = .ok (.putfield 33, 3) := by decide +kernel
theorem dX1_advance_63 : decode cX1_advance 63 = .ok (.return_, 1) := by decide +kernel
theorem dX1_advance_64 : decode cX1_advance 64 = .ok (.aload_n 0, 1) := by decide +kernel
theorem dX1_advance_65 : decode cX1_advance 65 = .ok (.getfield 7, 3) := by decide +kernel
theorem dX1_advance_68 : decode cX1_advance 68 = .ok (.aload_n 0, 1) := by decide +kernel
theorem dX1_advance_69 : decode cX1_advance 69 = .ok (.getfield 23, 3) := by decide +kernel
theorem dX1_advance_72 : decode cX1_advance 72 = .ok (.baload, 1) := by decide +kernel
theorem dX1_advance_73 : decode cX1_advance 73 = .ok (.istore_n 1, 1) := by decide +kernel
theorem dX1_advance_74 : decode cX1_advance 74 = .ok (.iload_n 1, 1) := by decide +kernel
theorem dX1_advance_75 : decode cX1_advance 75 = .ok (.invokestatic 36, 3) := by decide +kernel
theorem dX1_advance_78 : decode cX1_advance 78 = .ok (.ifCond .eq 10, 3) := by decide +kernel
theorem dX1_advance_8 : decode cX1_advance 8 = .ok (.if_icmp .ge 31, 3) := by decide +kernel
theorem dX1_advance_81 : decode cX1_advance 81 = .ok (.aload_n 0, 1) := by decide +kernel
theorem dX1_advance_82 : decode cX1_advance 82 = .ok (.invokevirtual 39, 3) := by decide +kernel
theorem dX1_advance_85 : decode cX1_advance 85 = .ok (.goto 43, 3) := by decide +kernel
theorem dX1_advance_88 : decode cX1_advance 88 = .ok (.iload_n 1, 1) := by decide +kernel
theorem dX1_advance_89 : decode cX1_advance 89 = .ok (.invokestatic 42, 3) := by decide +kernel
theorem dX1_advance_92 : decode cX1_advance 92 = .ok (.ifCond .eq 10, 3) := by decide +kernel
theorem dX1_advance_95 : decode cX1_advance 95 = .ok (.aload_n 0, 1) := by decide +kernel
theorem dX1_advance_96 : decode cX1_advance 96 = .ok (.invokevirtual 45, 3) := by decide +kernel
theorem dX1_advance_99 : decode cX1_advance 99 = .ok (.goto 29, 3) := by decide +kernel
theorem dX1_begin_0 : decode cX1_begin 0 = .ok (.aload_n 0, 1) := by decide +kernel
theorem dX1_begin_1 : decode cX1_begin 1 = .ok (.aload_n 1, 1) := by decide +kernel
theorem dX1_begin_12 : decode cX1_begin 12 = .ok (.putfield 19, 3) := by decide +kernel
theorem dX1_begin_15 : decode cX1_begin 15 = .ok (.aload_n 0, 1) := by decide +kernel
theorem dX1_begin_16 : decode cX1_begin 16 = .ok (.iconst 0, 1) := by decide +kernel
theorem dX1_begin_17 : decode cX1_begin 17 = .ok (.putfield 23, 3) := by decide +kernel
theorem dX1_begin_2 : decode cX1_begin 2 = .ok (.putfield 7, 3) := by decide +kernel
theorem dX1_begin_20 : decode cX1_begin 20 = .ok (.return_, 1) := by decide +kernel
theorem dX1_begin_5 : decode cX1_begin 5 = .ok (.aload_n 0, 1) := by decide +kernel
theorem dX1_begin_6 : decode cX1_begin 6 = .ok (.iload_n 2, 1) := by decide +kernel
theorem dX1_begin_7 : decode cX1_begin 7 = .ok (.aload_n 1, 1) := by decide +kernel
theorem dX1_begin_8 : decode cX1_begin 8 = .ok (.arraylength, 1) := by decide +kernel
theorem dX1_begin_9 : decode cX1_begin 9 = .ok (.invokestatic 13, 3) := by decide +kernel
theorem dX1_isBlank_0 : decode cX1_isBlank 0 = .ok (.iload_n 0, 1) := by decide +kernel
theorem dX1_isBlank_1 : decode cX1_isBlank 1 = .ok (.bipush 32, 2) := by decide +kernel
theorem dX1_isBlank_12 : decode cX1_isBlank 12 = .ok (.iconst 1, 1) := by decide +kernel
theorem dX1_isBlank_13 : decode cX1_isBlank 13 = .ok (.goto 4, 3) := by decide +kernel
theorem dX1_isBlank_16 : decode cX1_isBlank 16 = .ok (.iconst 0, 1) := by decide +kernel
theorem dX1_isBlank_17 : decode cX1_isBlank 17 = .ok (.ireturn, 1) := by decide +kernel
theorem dX1_isBlank_3 : decode cX1_isBlank 3 = .ok (.if_icmp .eq 9, 3) := by decide +kernel
theorem dX1_isBlank_6 : decode cX1_isBlank 6 = .ok (.iload_n 0, 1) := by decide +kernel
theorem dX1_isBlank_7 : decode cX1_isBlank 7 = .ok (.bipush 10, 2) := by decide +kernel
theorem dX1_isBlank_9 : decode cX1_isBlank 9 = .ok (.if_icmp .ne 7, 3) := by decide +kernel
theorem dX1_isDigit_0 : decode cX1_isDigit 0 = .ok (.iload_n 0, 1) := by decide +kernel
theorem dX1_isDigit_1 : decode cX1_isDigit 1 = .ok (.bipush 48, 2) := by decide +kernel
theorem dX1_isDigit_12 : decode cX1_isDigit 12 = .ok (.iconst 1, 1) := by decide +kernel
theorem dX1_isDigit_13 : decode cX1_isDigit 13 = .ok (.goto 4, 3) := by decide +kernel
theorem dX1_isDigit_16 : decode cX1_isDigit 16 = .ok (.iconst 0, 1) := by decide +kernel
theorem dX1_isDigit_17 : decode cX1_isDigit 17 = .ok (.ireturn, 1) := by decide +kernel
theorem dX1_isDigit_3 : decode cX1_isDigit 3 = .ok (.if_icmp .lt 13, 3) := by decide +kernel
theorem dX1_isDigit_6 : decode cX1_isDigit 6 = .ok (.iload_n 0, 1) := by decide +kernel
theorem dX1_isDigit_7 : decode cX1_isDigit 7 = .ok (.bipush 57, 2) := by decide +kernel
theorem dX1_isDigit_9 : decode cX1_isDigit 9 = .ok (.if_icmp .gt 7, 3) := by decide +kernel
theorem dX1_isLetterOrDigit_0 : decode cX1_isLetterOrDigit 0 = .ok (.iload_n 0, 1) := by decide +kernel
theorem dX1_isLetterOrDigit_1 : decode cX1_isLetterOrDigit 1 = .ok (.invokestatic 36, 3) := by decide +kernel
theorem dX1_isLetterOrDigit_11 : decode cX1_isLetterOrDigit 11 = .ok (.ifCond .eq 7, 3) := by decide +kernel
theorem dX1_isLetterOrDigit_14 : decode cX1_isLetterOrDigit 14 = .ok (.iconst 1, 1) := by decide +kernel
theorem dX1_isLetterOrDigit_15 : decode cX1_isLetterOrDigit 15 = .ok (.goto 4, 3) := by decide +kernel
theorem dX1_isLetterOrDigit_18 : decode cX1_isLetterOrDigit 18 = .ok (.iconst 0, 1) := by decide +kernel
theorem dX1_isLetterOrDigit_19 : decode cX1_isLetterOrDigit 19 = .ok (.ireturn, 1) := by decide +kernel
theorem dX1_isLetterOrDigit_4 : decode cX1_isLetterOrDigit 4 = .ok (.ifCond .ne 10, 3) := by decide +kernel
theorem dX1_isLetterOrDigit_7 : decode cX1_isLetterOrDigit 7 = .ok (.iload_n 0, 1) := by decide +kernel
theorem dX1_isLetterOrDigit_8 : decode cX1_isLetterOrDigit 8 = .ok (.invokestatic 42, 3) := by decide +kernel
theorem dX1_isLetter_0 : decode cX1_isLetter 0 = .ok (.iload_n 0, 1) := by decide +kernel
theorem dX1_isLetter_1 : decode cX1_isLetter 1 = .ok (.bipush 97, 2) := by decide +kernel
theorem dX1_isLetter_12 : decode cX1_isLetter 12 = .ok (.iconst 1, 1) := by decide +kernel
theorem dX1_isLetter_13 : decode cX1_isLetter 13 = .ok (.goto 4, 3) := by decide +kernel
theorem dX1_isLetter_16 : decode cX1_isLetter 16 = .ok (.iconst 0, 1) := by decide +kernel
theorem dX1_isLetter_17 : decode cX1_isLetter 17 = .ok (.ireturn, 1) := by decide +kernel
theorem dX1_isLetter_3 : decode cX1_isLetter 3 = .ok (.if_icmp .lt 13, 3) := by decide +kernel
theorem dX1_isLetter_6 : decode cX1_isLetter 6 = .ok (.iload_n 0, 1) := by decide +kernel
theorem dX1_isLetter_7 : decode cX1_isLetter 7 = .ok (.bipush 122, 2) := by decide +kernel
theorem dX1_isLetter_9 : decode cX1_isLetter 9 = .ok (.if_icmp .gt 7, 3) := by decide +kernel
theorem dX1_isSign_0 : decode cX1_isSign 0 = .ok (.iload_n 0, 1) := by decide +kernel
theorem dX1_isSign_1 : decode cX1_isSign 1 = .ok (.bipush 44, 2) := by decide +kernel
theorem dX1_isSign_12 : decode cX1_isSign 12 = .ok (.iload_n 0, 1) := by decide +kernel
theorem dX1_isSign_13 : decode cX1_isSign 13 = .ok (.bipush 61, 2) := by decide +kernel
theorem dX1_isSign_15 : decode cX1_isSign 15 = .ok (.if_icmp .eq 21, 3) := by decide +kernel
theorem dX1_isSign_18 : decode cX1_isSign 18 = .ok (.iload_n 0, 1) := by decide +kernel
theorem dX1_isSign_19 : decode cX1_isSign 19 = .ok (.bipush 40, 2) := by decide +kernel
theorem dX1_isSign_21 : decode cX1_isSign 21 = .ok (.if_icmp .eq 15, 3) := by decide +kernel
theorem dX1_isSign_24 : decode cX1_isSign 24 = .ok (.iload_n 0, 1) := by decide +kernel
theorem dX1_isSign_25 : decode cX1_isSign 25 = .ok (.bipush 41, 2) := by decide +kernel
theorem dX1_isSign_27 : decode cX1_isSign 27 = .ok (.if_icmp .eq 9, 3) := by decide +kernel
theorem dX1_isSign_3 : decode cX1_isSign 3 = .ok (.if_icmp .eq 33, 3) := by decide +kernel
theorem dX1_isSign_30 : decode cX1_isSign 30 = .ok (.iload_n 0, 1) := by decide +kernel
theorem dX1_isSign_31 : decode cX1_isSign 31 = .ok (.bipush 60, 2) := by decide +kernel
theorem dX1_isSign_33 : decode cX1_isSign 33 = .ok (.if_icmp .ne 7, 3) := by decide +kernel
theorem dX1_isSign_36 : decode cX1_isSign 36 = .ok (.iconst 1, 1) := by decide +kernel
theorem dX1_isSign_37 : decode cX1_isSign 37 = .ok (.goto 4, 3) := by decide +kernel
theorem dX1_isSign_40 : decode cX1_isSign 40 = .ok (.iconst 0, 1) := by decide +kernel
theorem dX1_isSign_41 : decode cX1_isSign 41 = .ok (.ireturn, 1) := by decide +kernel
theorem dX1_isSign_6 : decode cX1_isSign 6 = .ok (.iload_n 0, 1) := by decide +kernel
theorem dX1_isSign_7 : decode cX1_isSign 7 = .ok (.bipush 59, 2) := by decide +kernel
theorem dX1_isSign_9 : decode cX1_isSign 9 = .ok (.if_icmp .eq 27, 3) := by decide +kernel
theorem dX1_takeDigit_0 : decode cX1_takeDigit 0 = .ok (.aload_n 0, 1) := by decide +kernel
theorem dX1_takeDigit_1 : decode cX1_takeDigit 1 = .ok (.aload_n 0, 1) := by decide +kernel
theorem dX1_takeDigit_10 : decode cX1_takeDigit 10 = .ok (.bipush 48, 2) := by decide +kernel
theorem dX1_takeDigit_12 : decode cX1_takeDigit 12 = .ok (.isub, 1) := by decide +kernel
theorem dX1_takeDigit_13 : decode cX1_takeDigit 13 = .ok (.putfield 58, 3) := by decide +kernel
theorem dX1_takeDigit_16 : decode cX1_takeDigit 16 = .ok (.aload_n 0, 1) := by decide +kernel
theorem dX1_takeDigit_17 : decode cX1_takeDigit 17 = .ok (.dup, 1) := by decide +kernel
theorem dX1_takeDigit_18 : decode cX1_takeDigit 18 = .ok (.getfield 23, 3) := by decide +kernel
theorem dX1_takeDigit_2 : decode cX1_takeDigit 2 = .ok (.getfield 7, 3) := by decide +kernel
theorem dX1_takeDigit_21 : decode cX1_takeDigit 21 = .ok (.iconst 1, 1) := by decide +kernel
theorem dX1_takeDigit_22 : decode cX1_takeDigit 22 = .ok (.iadd, 1) := by decide +kernel
theorem dX1_takeDigit_23 : decode cX1_takeDigit 23 = .ok (.putfield 23, 3) := by decide +kernel
theorem dX1_takeDigit_26 : decode cX1_takeDigit 26 = .ok (.aload_n 0, 1) := by decide +kernel
theorem dX1_takeDigit_27 : decode cX1_takeDigit 27 = .ok (.getfield 23, 3) := by decide +kernel
theorem dX1_takeDigit_30 : decode cX1_takeDigit 30 = .ok (.aload_n 0, 1) := by decide +kernel
theorem dX1_takeDigit_31 : decode cX1_takeDigit 31 = .ok (.getfield 19, 3) := by decide +kernel
theorem dX1_takeDigit_34 : decode cX1_takeDigit 34 = .ok (.if_icmp .ge 18, 3) := by decide +kernel
theorem dX1_takeDigit_37 : decode cX1_takeDigit 37 = .ok (.aload_n 0, 1) := by decide +kernel
theorem dX1_takeDigit_38 : decode cX1_takeDigit 38 = .ok (.getfield 7, 3) := by decide +kernel
theorem dX1_takeDigit_41 : decode cX1_takeDigit 41 = .ok (.aload_n 0, 1) := by decide +kernel
theorem dX1_takeDigit_42 : decode cX1_takeDigit 42 = .ok (.getfield 23, 3) := by decide +kernel
theorem dX1_takeDigit_45 : decode cX1_takeDigit 45 = .ok (.baload, 1) := by decide +kernel
theorem dX1_takeDigit_46 : decode cX1_takeDigit 46 = .ok (.invokestatic 55, 3) := by decide +kernel
theorem dX1_takeDigit_49 : decode cX1_takeDigit 49 = .ok (.ifCond .ne 7, 3) := by decide +kernel
theorem dX1_takeDigit_5 : decode cX1_takeDigit 5 = .ok (.aload_n 0, 1) := by decide +kernel
theorem dX1_takeDigit_52 : decode cX1_takeDigit 52 = .ok (.iconst 1, 1) := by decide +kernel
theorem dX1_takeDigit_53 : decode cX1_takeDigit 53 = .ok (.goto 4, 3) := by decide +kernel
theorem dX1_takeDigit_56 : decode cX1_takeDigit 56 = .ok (.iconst 0, 1) := by decide +kernel
theorem dX1_takeDigit_57 : decode cX1_takeDigit 57 = .ok (.istore_n 1, 1) := by decide +kernel
theorem dX1_takeDigit_58 : decode cX1_takeDigit 58 = .ok (.aload_n 0, 1) := by decide +kernel
theorem dX1_takeDigit_59 : decode cX1_takeDigit 59 = .ok (.iload_n 1, 1) := by decide +kernel
theorem dX1_takeDigit_6 : decode cX1_takeDigit 6 = .ok (.getfield 23, 3) := by decide +kernel
theorem dX1_takeDigit_60 : decode cX1_takeDigit 60 = .ok (.ifCond .eq 14, 3) := by decide +kernel
theorem dX1_takeDigit_63 : decode cX1_takeDigit 63 = .ok (.aload_n 0, 1) := by decide +kernel
theorem dX1_takeDigit_64 : decode cX1_takeDigit 64 = .ok (.getfield 58, 3) := by decide +kernel
theorem dX1_takeDigit_67 : decode cX1_takeDigit 67 = .ok (.ifCond .le 7, 3) := by decide +kernel
theorem dX1_takeDigit_70 : decode cX1_takeDigit 70 = .ok (.iconst 3, 1) := by decide +kernel
theorem dX1_takeDigit_71 : decode cX1_takeDigit 71 = .ok (.goto 4, 3) := by decide +kernel
theorem dX1_takeDigit_74 : decode cX1_takeDigit 74 = .ok (.iconst 0, 1) := by decide +kernel
theorem dX1_takeDigit_75 : decode cX1_takeDigit 75 = .ok (.putfield 33, 3) := by decide +kernel
theorem dX1_takeDigit_78 : decode cX1_takeDigit 78 = .ok (.return_, 1) := by decide +kernel
theorem dX1_takeDigit_9 : decode cX1_takeDigit 9 = .ok (.baload, 1) := by decide +kernel
theorem dX1_takeWord_0 : decode cX1_takeWord 0 = .ok (.aload_n 0, 1) := by decide +kernel
theorem dX1_takeWord_1 : decode cX1_takeWord 1 = .ok (.lconst 0, 1) := by decide +kernel
theorem dX1_takeWord_10 : decode cX1_takeWord 10 = .ok (.getfield 19, 3) := by decide +kernel
theorem dX1_takeWord_13 : decode cX1_takeWord 13 = .ok (.if_icmp .ge 53, 3) := by decide +kernel
theorem dX1_takeWord_16 : decode cX1_takeWord 16 = .ok (.aload_n 0, 1) := by decide +kernel
theorem dX1_takeWord_17 : decode cX1_takeWord 17 = .ok (.getfield 7, 3) := by decide +kernel
theorem dX1_takeWord_2 : decode cX1_takeWord 2 = .ok (.putfield 51, 3) := by decide +kernel
theorem dX1_takeWord_20 : decode cX1_takeWord 20 = .ok (.aload_n 0, 1) := by decide +kernel
theorem dX1_takeWord_21 : decode cX1_takeWord 21 = .ok (.getfield 23, 3) := by decide +kernel
theorem dX1_takeWord_24 : decode cX1_takeWord 24 = .ok (.baload, 1) := by decide +kernel
theorem dX1_takeWord_25 : decode cX1_takeWord 25 = .ok (.invokestatic 55, 3) := by decide +kernel
theorem dX1_takeWord_28 : decode cX1_takeWord 28 = .ok (.ifCond .eq 38, 3) := by decide +kernel
theorem dX1_takeWord_31 : decode cX1_takeWord 31 = .ok (.aload_n 0, 1) := by decide +kernel
theorem dX1_takeWord_32 : decode cX1_takeWord 32 = .ok (.aload_n 0, 1) := by decide +kernel
theorem dX1_takeWord_33 : decode cX1_takeWord 33 = .ok (.getfield 51, 3) := by decide +kernel
theorem dX1_takeWord_36 : decode cX1_takeWord 36 = .ok (.bipush 8, 2) := by decide +kernel
theorem dX1_takeWord_38 : decode cX1_takeWord 38 = .ok (.lshl, 1) := by decide +kernel
theorem dX1_takeWord_39 : decode cX1_takeWord 39 = .ok (.aload_n 0, 1) := by decide +kernel
theorem dX1_takeWord_40 : decode cX1_takeWord 40 = .ok (.getfield 7, 3) := by decide +kernel
theorem dX1_takeWord_43 : decode cX1_takeWord 43 = .ok (.aload_n 0, 1) := by decide +kernel
theorem dX1_takeWord_44 : decode cX1_takeWord 44 = .ok (.getfield 23, 3) := by decide +kernel
theorem dX1_takeWord_47 : decode cX1_takeWord 47 = .ok (.baload, 1) := by decide +kernel
theorem dX1_takeWord_48 : decode cX1_takeWord 48 = .ok (.i2l, 1) := by decide +kernel
theorem dX1_takeWord_49 : decode cX1_takeWord 49 = .ok (.lor, 1) := by decide +kernel
theorem dX1_takeWord_5 : decode cX1_takeWord 5 = .ok (.aload_n 0, 1) := by decide +kernel
theorem dX1_takeWord_50 : decode cX1_takeWord 50 = .ok (.putfield 51, 3) := by decide +kernel
theorem dX1_takeWord_53 : decode cX1_takeWord 53 = .ok (.aload_n 0, 1) := by decide +kernel
theorem dX1_takeWord_54 : decode cX1_takeWord 54 = .ok (.dup, 1) := by decide +kernel
theorem dX1_takeWord_55 : decode cX1_takeWord 55 = .ok (.getfield 23, 3) := by decide +kernel
theorem dX1_takeWord_58 : decode cX1_takeWord 58 = .ok (.iconst 1, 1) := by decide +kernel
theorem dX1_takeWord_59 : decode cX1_takeWord 59 = .ok (.iadd, 1) := by decide +kernel
theorem dX1_takeWord_6 : decode cX1_takeWord 6 = .ok (.getfield 23, 3) := by decide +kernel
theorem dX1_takeWord_60 : decode cX1_takeWord 60 = .ok (.putfield 23, 3) := by decide +kernel
theorem dX1_takeWord_63 : decode cX1_takeWord 63 = .ok (.goto (-58), 3) := by decide +kernel
theorem dX1_takeWord_66 : decode cX1_takeWord 66 = .ok (.aload_n 0, 1) := by decide +kernel
theorem dX1_takeWord_67 : decode cX1_takeWord 67 = .ok (.aload_n 0, 1) := by decide +kernel
theorem dX1_takeWord_68 : decode cX1_takeWord 68 = .ok (.getfield 23, 3) := by decide +kernel
theorem dX1_takeWord_71 : decode cX1_takeWord 71 = .ok (.aload_n 0, 1) := by decide +kernel
theorem dX1_takeWord_72 : decode cX1_takeWord 72 = .ok (.getfield 30, 3) := by decide +kernel
theorem dX1_takeWord_75 : decode cX1_takeWord 75 = .ok (.isub, 1) := by decide +kernel
theorem dX1_takeWord_76 : decode cX1_takeWord 76 = .ok (.bipush 8, 2) := by decide +kernel
theorem dX1_takeWord_78 : decode cX1_takeWord 78 = .ok (.if_icmp .le 7, 3) := by decide +kernel
theorem dX1_takeWord_81 : decode cX1_takeWord 81 = .ok (.iconst 0, 1) := by decide +kernel
theorem dX1_takeWord_82 : decode cX1_takeWord 82 = .ok (.goto 4, 3) := by decide +kernel
theorem dX1_takeWord_85 : decode cX1_takeWord 85 = .ok (.iconst 2, 1) := by decide +kernel
theorem dX1_takeWord_86 : decode cX1_takeWord 86 = .ok (.putfield 33, 3) := by decide +kernel
theorem dX1_takeWord_89 : decode cX1_takeWord 89 = .ok (.return_, 1) := by decide +kernel
theorem dX1_takeWord_9 : decode cX1_takeWord 9 = .ok (.aload_n 0, 1) := by decide +kernel
theorem dX2_afterTick_0 : decode cX2_afterTick 0 = .ok (.aload_n 2, 1) := by decide +kernel
theorem dX2_afterTick_1 : decode cX2_afterTick 1 = .ok (.iload_n 1, 1) := by decide +kernel
theorem dX2_afterTick_11 : decode cX2_afterTick 11 = .ok (.iaload, 1) := by decide +kernel
theorem dX2_afterTick_12 : decode cX2_afterTick 12 = .ok (.invokestatic 53, 3) := by decide +kernel
theorem dX2_afterTick_15 : decode cX2_afterTick 15 = .ok (.istore 4, 2) := by decide +kernel
theorem dX2_afterTick_17 : decode cX2_afterTick 17 = .ok (.aload_n 0, 1) := by decide +kernel
theorem dX2_afterTick_18 : decode cX2_afterTick 18 = .ok (.iload_n 1, 1) := by decide +kernel
theorem dX2_afterTick_19 : decode cX2_afterTick 19 = .ok (.invokevirtual 37, 3) := by decide +kernel
theorem dX2_afterTick_2 : decode cX2_afterTick 2 = .ok (.iaload, 1) := by decide +kernel
theorem dX2_afterTick_22 : decode cX2_afterTick 22 = .ok (.iconst 1, 1) := by decide +kernel
theorem dX2_afterTick_23 : decode cX2_afterTick 23 = .ok (.if_icmp .le 14, 3) := by decide +kernel
theorem dX2_afterTick_26 : decode cX2_afterTick 26 = .ok (.aload_n 2, 1) := by decide +kernel
theorem dX2_afterTick_27 : decode cX2_afterTick 27 = .ok (.aload_n 0, 1) := by decide +kernel
theorem dX2_afterTick_28 : decode cX2_afterTick 28 = .ok (.iload_n 1, 1) := by decide +kernel
theorem dX2_afterTick_29 : decode cX2_afterTick 29 = .ok (.iconst 1, 1) := by decide +kernel
theorem dX2_afterTick_3 : decode cX2_afterTick 3 = .ok (.istore_n 3, 1) := by decide +kernel
theorem dX2_afterTick_30 : decode cX2_afterTick 30 = .ok (.invokevirtual 41, 3) := by decide +kernel
theorem dX2_afterTick_33 : decode cX2_afterTick 33 = .ok (.iaload, 1) := by decide +kernel
theorem dX2_afterTick_34 : decode cX2_afterTick 34 = .ok (.goto 4, 3) := by decide +kernel
theorem dX2_afterTick_37 : decode cX2_afterTick 37 = .ok (.iconst 1, 1) := by decide +kernel
theorem dX2_afterTick_38 : decode cX2_afterTick 38 = .ok (.istore 5, 2) := by decide +kernel
theorem dX2_afterTick_4 : decode cX2_afterTick 4 = .ok (.aload_n 2, 1) := by decide +kernel
theorem dX2_afterTick_40 : decode cX2_afterTick 40 = .ok (.iload 5, 2) := by decide +kernel
theorem dX2_afterTick_42 : decode cX2_afterTick 42 = .ok (.iconst 1, 1) := by decide +kernel
theorem dX2_afterTick_43 : decode cX2_afterTick 43 = .ok (.if_icmp .ne 6, 3) := by decide +kernel
theorem dX2_afterTick_46 : decode cX2_afterTick 46 = .ok (.iload 4, 2) := by decide +kernel
theorem dX2_afterTick_48 : decode cX2_afterTick 48 = .ok (.ireturn, 1) := by decide +kernel
theorem dX2_afterTick_49 : decode cX2_afterTick 49 = .ok (.iload 5, 2) := by decide +kernel
theorem dX2_afterTick_5 : decode cX2_afterTick 5 = .ok (.aload_n 0, 1) := by decide +kernel
theorem dX2_afterTick_51 : decode cX2_afterTick 51 = .ok (.ifCond .ne 5, 3) := by decide +kernel
theorem dX2_afterTick_54 : decode cX2_afterTick 54 = .ok (.iload_n 3, 1) := by decide +kernel
theorem dX2_afterTick_55 : decode cX2_afterTick 55 = .ok (.ireturn, 1) := by decide +kernel
theorem dX2_afterTick_56 : decode cX2_afterTick 56 = .ok (.iload 4, 2) := by decide +kernel
theorem dX2_afterTick_58 : decode cX2_afterTick 58 = .ok (.iload_n 3, 1) := by decide +kernel
theorem dX2_afterTick_59 : decode cX2_afterTick 59 = .ok (.if_icmp .ne 7, 3) := by decide +kernel
theorem dX2_afterTick_6 : decode cX2_afterTick 6 = .ok (.iload_n 1, 1) := by decide +kernel
theorem dX2_afterTick_62 : decode cX2_afterTick 62 = .ok (.iload_n 3, 1) := by decide +kernel
theorem dX2_afterTick_63 : decode cX2_afterTick 63 = .ok (.goto 4, 3) := by decide +kernel
theorem dX2_afterTick_66 : decode cX2_afterTick 66 = .ok (.iconst 2, 1) := by decide +kernel
theorem dX2_afterTick_67 : decode cX2_afterTick 67 = .ok (.ireturn, 1) := by decide +kernel
theorem dX2_afterTick_7 : decode cX2_afterTick 7 = .ok (.iconst 0, 1) := by decide +kernel
theorem dX2_afterTick_8 : decode cX2_afterTick 8 = .ok (.invokevirtual 41, 3) := by decide +kernel
theorem dX2_busValue_0 : decode cX2_busValue 0 = .ok (.iconst 3, 1) := by decide +kernel
theorem dX2_busValue_1 : decode cX2_busValue 1 = .ok (.istore_n 3, 1) := by decide +kernel
theorem dX2_busValue_10 : decode cX2_busValue 10 = .ok (.istore 5, 2) := by decide +kernel
theorem dX2_busValue_12 : decode cX2_busValue 12 = .ok (.iload 5, 2) := by decide +kernel
theorem dX2_busValue_14 : decode cX2_busValue 14 = .ok (.iload 4, 2) := by decide +kernel
theorem dX2_busValue_16 : decode cX2_busValue 16 = .ok (.if_icmp .ge 44, 3) := by decide +kernel
theorem dX2_busValue_19 : decode cX2_busValue 19 = .ok (.aload_n 0, 1) := by decide +kernel
theorem dX2_busValue_2 : decode cX2_busValue 2 = .ok (.aload_n 0, 1) := by decide +kernel
theorem dX2_busValue_20 : decode cX2_busValue 20 = .ok (.iload_n 1, 1) := by decide +kernel
theorem dX2_busValue_21 : decode cX2_busValue 21 = .ok (.iload 5, 2) := by decide +kernel
theorem dX2_busValue_23 : decode cX2_busValue 23 = .ok (.aload_n 2, 1) := by decide +kernel
theorem dX2_busValue_24 : decode cX2_busValue 24 = .ok (.invokestatic 56, 3) := by decide +kernel
theorem dX2_busValue_27 : decode cX2_busValue 27 = .ok (.istore 6, 2) := by decide +kernel
theorem dX2_busValue_29 : decode cX2_busValue 29 = .ok (.iload_n 3, 1) := by decide +kernel
theorem dX2_busValue_3 : decode cX2_busValue 3 = .ok (.iload_n 1, 1) := by decide +kernel
theorem dX2_busValue_30 : decode cX2_busValue 30 = .ok (.iconst 3, 1) := by decide +kernel
theorem dX2_busValue_31 : decode cX2_busValue 31 = .ok (.if_icmp .ne 9, 3) := by decide +kernel
theorem dX2_busValue_34 : decode cX2_busValue 34 = .ok (.iload 6, 2) := by decide +kernel
theorem dX2_busValue_36 : decode cX2_busValue 36 = .ok (.istore_n 3, 1) := by decide +kernel
theorem dX2_busValue_37 : decode cX2_busValue 37 = .ok (.goto 17, 3) := by decide +kernel
theorem dX2_busValue_4 : decode cX2_busValue 4 = .ok (.invokevirtual 37, 3) := by decide +kernel
theorem dX2_busValue_40 : decode cX2_busValue 40 = .ok (.iload 6, 2) := by decide +kernel
theorem dX2_busValue_42 : decode cX2_busValue 42 = .ok (.iconst 3, 1) := by decide +kernel
theorem dX2_busValue_43 : decode cX2_busValue 43 = .ok (.if_icmp .eq 11, 3) := by decide +kernel
theorem dX2_busValue_46 : decode cX2_busValue 46 = .ok (.iload 6, 2) := by decide +kernel
theorem dX2_busValue_48 : decode cX2_busValue 48 = .ok (.iload_n 3, 1) := by decide +kernel
theorem dX2_busValue_49 : decode cX2_busValue 49 = .ok (.if_icmp .eq 5, 3) := by decide +kernel
theorem dX2_busValue_52 : decode cX2_busValue 52 = .ok (.iconst 2, 1) := by decide +kernel
theorem dX2_busValue_53 : decode cX2_busValue 53 = .ok (.istore_n 3, 1) := by decide +kernel
theorem dX2_busValue_54 : decode cX2_busValue 54 = .ok (.iinc 5 1, 3) := by decide +kernel
theorem dX2_busValue_57 : decode cX2_busValue 57 = .ok (.goto (-45), 3) := by decide +kernel
theorem dX2_busValue_60 : decode cX2_busValue 60 = .ok (.iload_n 3, 1) := by decide +kernel
theorem dX2_busValue_61 : decode cX2_busValue 61 = .ok (.ireturn, 1) := by decide +kernel
theorem dX2_busValue_7 : decode cX2_busValue 7 = .ok (.istore 4, 2) := by decide +kernel
theorem dX2_busValue_9 : decode cX2_busValue 9 = .ok (.iconst 0, 1) := by decide +kernel
theorem dX2_driverValue_0 : decode cX2_driverValue 0 = .ok (.aload_n 3, 1) := by decide +kernel
theorem dX2_driverValue_1 : decode cX2_driverValue 1 = .ok (.aload_n 0, 1) := by decide +kernel
theorem dX2_driverValue_10 : decode cX2_driverValue 10 = .ok (.istore 4, 2) := by decide +kernel
theorem dX2_driverValue_12 : decode cX2_driverValue 12 = .ok (.aload_n 3, 1) := by decide +kernel
theorem dX2_driverValue_13 : decode cX2_driverValue 13 = .ok (.aload_n 0, 1) := by decide +kernel
theorem dX2_driverValue_14 : decode cX2_driverValue 14 = .ok (.iload_n 1, 1) := by decide +kernel
theorem dX2_driverValue_15 : decode cX2_driverValue 15 = .ok (.iconst 2, 1) := by decide +kernel
theorem dX2_driverValue_16 : decode cX2_driverValue 16 = .ok (.iload_n 2, 1) := by decide +kernel
theorem dX2_driverValue_17 : decode cX2_driverValue 17 = .ok (.imul, 1) := by decide +kernel
theorem dX2_driverValue_18 : decode cX2_driverValue 18 = .ok (.iconst 1, 1) := by decide +kernel
theorem dX2_driverValue_19 : decode cX2_driverValue 19 = .ok (.iadd, 1) := by decide +kernel
theorem dX2_driverValue_2 : decode cX2_driverValue 2 = .ok (.iload_n 1, 1) := by decide +kernel
theorem dX2_driverValue_20 : decode cX2_driverValue 20 = .ok (.invokevirtual 41, 3) := by decide +kernel
theorem dX2_driverValue_23 : decode cX2_driverValue 23 = .ok (.iaload, 1) := by decide +kernel
theorem dX2_driverValue_24 : decode cX2_driverValue 24 = .ok (.istore 5, 2) := by decide +kernel
theorem dX2_driverValue_26 : decode cX2_driverValue 26 = .ok (.iload 5, 2) := by decide +kernel
theorem dX2_driverValue_28 : decode cX2_driverValue 28 = .ok (.iconst 2, 1) := by decide +kernel
theorem dX2_driverValue_29 : decode cX2_driverValue 29 = .ok (.if_icmp .lt 5, 3) := by decide +kernel
theorem dX2_driverValue_3 : decode cX2_driverValue 3 = .ok (.iconst 2, 1) := by decide +kernel
theorem dX2_driverValue_32 : decode cX2_driverValue 32 = .ok (.iconst 2, 1) := by decide +kernel
theorem dX2_driverValue_33 : decode cX2_driverValue 33 = .ok (.ireturn, 1) := by decide +kernel
theorem dX2_driverValue_34 : decode cX2_driverValue 34 = .ok (.aload_n 0, 1) := by decide +kernel
theorem dX2_driverValue_35 : decode cX2_driverValue 35 = .ok (.iload_n 1, 1) := by decide +kernel
theorem dX2_driverValue_36 : decode cX2_driverValue 36 = .ok (.iload_n 2, 1) := by decide +kernel
theorem dX2_driverValue_37 : decode cX2_driverValue 37 = .ok (.invokevirtual 60, 3) := by decide +kernel
theorem dX2_driverValue_4 : decode cX2_driverValue 4 = .ok (.iload_n 2, 1) := by decide +kernel
theorem dX2_driverValue_40 : decode cX2_driverValue 40 = .ok (.ifCond .eq 7, 3) := by decide +kernel
theorem dX2_driverValue_43 : decode cX2_driverValue 43 = .ok (.iconst 0, 1) := by decide +kernel
theorem dX2_driverValue_44 : decode cX2_driverValue 44 = .ok (.goto 4, 3) := by decide +kernel
theorem dX2_driverValue_47 : decode cX2_driverValue 47 = .ok (.iconst 1, 1) := by decide +kernel
theorem dX2_driverValue_48 : decode cX2_driverValue 48 = .ok (.istore 6, 2) := by decide +kernel
theorem dX2_driverValue_5 : decode cX2_driverValue 5 = .ok (.imul, 1) := by decide +kernel
theorem dX2_driverValue_50 : decode cX2_driverValue 50 = .ok (.iload 5, 2) := by decide +kernel
theorem dX2_driverValue_52 : decode cX2_driverValue 52 = .ok (.iload 6, 2) := by decide +kernel
theorem dX2_driverValue_54 : decode cX2_driverValue 54 = .ok (.if_icmp .ne 11, 3) := by decide +kernel
theorem dX2_driverValue_57 : decode cX2_driverValue 57 = .ok (.iload 4, 2) := by decide +kernel
theorem dX2_driverValue_59 : decode cX2_driverValue 59 = .ok (.invokestatic 53, 3) := by decide +kernel
theorem dX2_driverValue_6 : decode cX2_driverValue 6 = .ok (.invokevirtual 41, 3) := by decide +kernel
theorem dX2_driverValue_62 : decode cX2_driverValue 62 = .ok (.goto 4, 3) := by decide +kernel
theorem dX2_driverValue_65 : decode cX2_driverValue 65 = .ok (.iconst 3, 1) := by decide +kernel
theorem dX2_driverValue_66 : decode cX2_driverValue 66 = .ok (.ireturn, 1) := by decide +kernel
theorem dX2_driverValue_9 : decode cX2_driverValue 9 = .ok (.iaload, 1) := by decide +kernel
theorem dX2_gateValue_0 : decode cX2_gateValue 0 = .ok (.aload_n 0, 1) := by decide +kernel
theorem dX2_gateValue_1 : decode cX2_gateValue 1 = .ok (.getfield 31, 3) := by decide +kernel
theorem dX2_gateValue_10 : decode cX2_gateValue 10 = .ok (.if_icmp .ne 10, 3) := by decide +kernel
theorem dX2_gateValue_101 : decode cX2_gateValue 101 = .ok (.invokestatic 45, 3) := by decide +kernel
theorem dX2_gateValue_104 : decode cX2_gateValue 104 = .ok (.istore 7, 2) := by decide +kernel
theorem dX2_gateValue_106 : decode cX2_gateValue 106 = .ok (.iload_n 3, 1) := by decide +kernel
theorem dX2_gateValue_107 : decode cX2_gateValue 107 = .ok (.invokestatic 49, 3) := by decide +kernel
theorem dX2_gateValue_110 : decode cX2_gateValue 110 = .ok (.ifCond .eq 16, 3) := by decide +kernel
theorem dX2_gateValue_113 : decode cX2_gateValue 113 = .ok (.iload 7, 2) := by decide +kernel
theorem dX2_gateValue_115 : decode cX2_gateValue 115 = .ok (.iconst 2, 1) := by decide +kernel
theorem dX2_gateValue_116 : decode cX2_gateValue 116 = .ok (.if_icmp .ge 10, 3) := by decide +kernel
theorem dX2_gateValue_119 : decode cX2_gateValue 119 = .ok (.iconst 1, 1) := by decide +kernel
theorem dX2_gateValue_120 : decode cX2_gateValue 120 = .ok (.iload 7, 2) := by decide +kernel
theorem dX2_gateValue_122 : decode cX2_gateValue 122 = .ok (.isub, 1) := by decide +kernel
theorem dX2_gateValue_123 : decode cX2_gateValue 123 = .ok (.goto 5, 3) := by decide +kernel
theorem dX2_gateValue_126 : decode cX2_gateValue 126 = .ok (.iload 7, 2) := by decide +kernel
theorem dX2_gateValue_128 : decode cX2_gateValue 128 = .ok (.ireturn, 1) := by decide +kernel
theorem dX2_gateValue_13 : decode cX2_gateValue 13 = .ok (.aload_n 0, 1) := by decide +kernel
theorem dX2_gateValue_14 : decode cX2_gateValue 14 = .ok (.iload_n 1, 1) := by decide +kernel
theorem dX2_gateValue_15 : decode cX2_gateValue 15 = .ok (.aload_n 2, 1) := by decide +kernel
theorem dX2_gateValue_16 : decode cX2_gateValue 16 = .ok (.invokestatic 34, 3) := by decide +kernel
theorem dX2_gateValue_19 : decode cX2_gateValue 19 = .ok (.ireturn, 1) := by decide +kernel
theorem dX2_gateValue_20 : decode cX2_gateValue 20 = .ok (.iconst 0, 1) := by decide +kernel
theorem dX2_gateValue_21 : decode cX2_gateValue 21 = .ok (.istore 4, 2) := by decide +kernel
theorem dX2_gateValue_23 : decode cX2_gateValue 23 = .ok (.iconst 0, 1) := by decide +kernel
theorem dX2_gateValue_24 : decode cX2_gateValue 24 = .ok (.istore 5, 2) := by decide +kernel
theorem dX2_gateValue_26 : decode cX2_gateValue 26 = .ok (.aload_n 0, 1) := by decide +kernel
theorem dX2_gateValue_27 : decode cX2_gateValue 27 = .ok (.iload_n 1, 1) := by decide +kernel
theorem dX2_gateValue_28 : decode cX2_gateValue 28 = .ok (.invokevirtual 37, 3) := by decide +kernel
theorem dX2_gateValue_31 : decode cX2_gateValue 31 = .ok (.istore 6, 2) := by decide +kernel
theorem dX2_gateValue_33 : decode cX2_gateValue 33 = .ok (.iconst 0, 1) := by decide +kernel
theorem dX2_gateValue_34 : decode cX2_gateValue 34 = .ok (.istore 7, 2) := by decide +kernel
theorem dX2_gateValue_36 : decode cX2_gateValue 36 = .ok (.iload 7, 2) := by decide +kernel
theorem dX2_gateValue_38 : decode cX2_gateValue 38 = .ok (.iload 6, 2) := by decide +kernel
theorem dX2_gateValue_4 : decode cX2_gateValue 4 = .ok (.iload_n 1, 1) := by decide +kernel
theorem dX2_gateValue_40 : decode cX2_gateValue 40 = .ok (.if_icmp .ge 51, 3) := by decide +kernel
theorem dX2_gateValue_43 : decode cX2_gateValue 43 = .ok (.aload_n 2, 1) := by decide +kernel
theorem dX2_gateValue_44 : decode cX2_gateValue 44 = .ok (.aload_n 0, 1) := by decide +kernel
theorem dX2_gateValue_45 : decode cX2_gateValue 45 = .ok (.iload_n 1, 1) := by decide +kernel
theorem dX2_gateValue_46 : decode cX2_gateValue 46 = .ok (.iload 7, 2) := by decide +kernel
theorem dX2_gateValue_48 : decode cX2_gateValue 48 = .ok (.invokevirtual 41, 3) := by decide +kernel
theorem dX2_gateValue_5 : decode cX2_gateValue 5 = .ok (.iaload, 1) := by decide +kernel
theorem dX2_gateValue_51 : decode cX2_gateValue 51 = .ok (.iaload, 1) := by decide +kernel
theorem dX2_gateValue_52 : decode cX2_gateValue 52 = .ok (.istore 8, 2) := by decide +kernel
theorem dX2_gateValue_54 : decode cX2_gateValue 54 = .ok (.iload 4, 2) := by decide +kernel
theorem dX2_gateValue_56 : decode cX2_gateValue 56 = .ok (.iload 8, 2) := by decide +kernel
theorem dX2_gateValue_58 : decode cX2_gateValue 58 = .ok (.ifCond .ne 7, 3) := by decide +kernel
theorem dX2_gateValue_6 : decode cX2_gateValue 6 = .ok (.istore_n 3, 1) := by decide +kernel
theorem dX2_gateValue_61 : decode cX2_gateValue 61 = .ok (.iconst 1, 1) := by decide +kernel
theorem dX2_gateValue_62 : decode cX2_gateValue 62 = .ok (.goto 4, 3) := by decide +kernel
theorem dX2_gateValue_65 : decode cX2_gateValue 65 = .ok (.iconst 0, 1) := by decide +kernel
theorem dX2_gateValue_66 : decode cX2_gateValue 66 = .ok (.iadd, 1) := by decide +kernel
theorem dX2_gateValue_67 : decode cX2_gateValue 67 = .ok (.istore 4, 2) := by decide +kernel
theorem dX2_gateValue_69 : decode cX2_gateValue 69 = .ok (.iload 5, 2) := by decide +kernel
theorem dX2_gateValue_7 : decode cX2_gateValue 7 = .ok (.iload_n 3, 1) := by decide +kernel
theorem dX2_gateValue_71 : decode cX2_gateValue 71 = .ok (.iload 8, 2) := by decide +kernel
theorem dX2_gateValue_73 : decode cX2_gateValue 73 = .ok (.iconst 1, 1) := by decide +kernel
theorem dX2_gateValue_74 : decode cX2_gateValue 74 = .ok (.if_icmp .ne 7, 3) := by decide +kernel
theorem dX2_gateValue_77 : decode cX2_gateValue 77 = .ok (.iconst 1, 1) := by decide +kernel
theorem dX2_gateValue_78 : decode cX2_gateValue 78 = .ok (.goto 4, 3) := by decide +kernel
theorem dX2_gateValue_8 : decode cX2_gateValue 8 = .ok (.bipush 8, 2) := by decide +kernel
theorem dX2_gateValue_81 : decode cX2_gateValue 81 = .ok (.iconst 0, 1) := by decide +kernel
theorem dX2_gateValue_82 : decode cX2_gateValue 82 = .ok (.iadd, 1) := by decide +kernel
theorem dX2_gateValue_83 : decode cX2_gateValue 83 = .ok (.istore 5, 2) := by decide +kernel
theorem dX2_gateValue_85 : decode cX2_gateValue 85 = .ok (.iinc 7 1, 3) := by decide +kernel
theorem dX2_gateValue_88 : decode cX2_gateValue 88 = .ok (.goto (-52), 3) := by decide +kernel
theorem dX2_gateValue_91 : decode cX2_gateValue 91 = .ok (.iload_n 3, 1) := by decide +kernel
theorem dX2_gateValue_92 : decode cX2_gateValue 92 = .ok (.bipush (-2), 2) := by decide +kernel
theorem dX2_gateValue_94 : decode cX2_gateValue 94 = .ok (.iand, 1) := by decide +kernel
theorem dX2_gateValue_95 : decode cX2_gateValue 95 = .ok (.iload 4, 2) := by decide +kernel
theorem dX2_gateValue_97 : decode cX2_gateValue 97 = .ok (.iload 5, 2) := by decide +kernel
theorem dX2_gateValue_99 : decode cX2_gateValue 99 = .ok (.iload 6, 2) := by decide +kernel
theorem dX2_isTurned_0 : decode cX2_isTurned 0 = .ok (.iload_n 0, 1) := by decide +kernel
theorem dX2_isTurned_1 : decode cX2_isTurned 1 = .ok (.iconst 1, 1) := by decide +kernel
theorem dX2_isTurned_11 : decode cX2_isTurned 11 = .ok (.iconst 0, 1) := by decide +kernel
theorem dX2_isTurned_12 : decode cX2_isTurned 12 = .ok (.ireturn, 1) := by decide +kernel
theorem dX2_isTurned_2 : decode cX2_isTurned 2 = .ok (.iand, 1) := by decide +kernel
theorem dX2_isTurned_3 : decode cX2_isTurned 3 = .ok (.iconst 1, 1) := by decide +kernel
theorem dX2_isTurned_4 : decode cX2_isTurned 4 = .ok (.if_icmp .ne 7, 3) := by decide +kernel
theorem dX2_isTurned_7 : decode cX2_isTurned 7 = .ok (.iconst 1, 1) := by decide +kernel
theorem dX2_isTurned_8 : decode cX2_isTurned 8 = .ok (.goto 4, 3) := by decide +kernel
theorem dX2_muxValue_0 : decode cX2_muxValue 0 = .ok (.aload_n 2, 1) := by decide +kernel
theorem dX2_muxValue_1 : decode cX2_muxValue 1 = .ok (.aload_n 0, 1) := by decide +kernel
theorem dX2_muxValue_10 : decode cX2_muxValue 10 = .ok (.aload_n 0, 1) := by decide +kernel
theorem dX2_muxValue_11 : decode cX2_muxValue 11 = .ok (.iload_n 1, 1) := by decide +kernel
theorem dX2_muxValue_12 : decode cX2_muxValue 12 = .ok (.iconst 1, 1) := by decide +kernel
theorem dX2_muxValue_13 : decode cX2_muxValue 13 = .ok (.invokevirtual 41, 3) := by decide +kernel
theorem dX2_muxValue_16 : decode cX2_muxValue 16 = .ok (.iaload, 1) := by decide +kernel
theorem dX2_muxValue_17 : decode cX2_muxValue 17 = .ok (.invokestatic 53, 3) := by decide +kernel
theorem dX2_muxValue_2 : decode cX2_muxValue 2 = .ok (.iload_n 1, 1) := by decide +kernel
theorem dX2_muxValue_20 : decode cX2_muxValue 20 = .ok (.istore 4, 2) := by decide +kernel
theorem dX2_muxValue_22 : decode cX2_muxValue 22 = .ok (.aload_n 2, 1) := by decide +kernel
theorem dX2_muxValue_23 : decode cX2_muxValue 23 = .ok (.aload_n 0, 1) := by decide +kernel
theorem dX2_muxValue_24 : decode cX2_muxValue 24 = .ok (.iload_n 1, 1) := by decide +kernel
theorem dX2_muxValue_25 : decode cX2_muxValue 25 = .ok (.iconst 2, 1) := by decide +kernel
theorem dX2_muxValue_26 : decode cX2_muxValue 26 = .ok (.invokevirtual 41, 3) := by decide +kernel
theorem dX2_muxValue_29 : decode cX2_muxValue 29 = .ok (.iaload, 1) := by decide +kernel
theorem dX2_muxValue_3 : decode cX2_muxValue 3 = .ok (.iconst 0, 1) := by decide +kernel
theorem dX2_muxValue_30 : decode cX2_muxValue 30 = .ok (.invokestatic 53, 3) := by decide +kernel
theorem dX2_muxValue_33 : decode cX2_muxValue 33 = .ok (.istore 5, 2) := by decide +kernel
theorem dX2_muxValue_35 : decode cX2_muxValue 35 = .ok (.iload_n 3, 1) := by decide +kernel
theorem dX2_muxValue_36 : decode cX2_muxValue 36 = .ok (.ifCond .ne 6, 3) := by decide +kernel
theorem dX2_muxValue_39 : decode cX2_muxValue 39 = .ok (.iload 4, 2) := by decide +kernel
theorem dX2_muxValue_4 : decode cX2_muxValue 4 = .ok (.invokevirtual 41, 3) := by decide +kernel
theorem dX2_muxValue_41 : decode cX2_muxValue 41 = .ok (.ireturn, 1) := by decide +kernel
theorem dX2_muxValue_42 : decode cX2_muxValue 42 = .ok (.iload_n 3, 1) := by decide +kernel
theorem dX2_muxValue_43 : decode cX2_muxValue 43 = .ok (.iconst 1, 1) := by decide +kernel
theorem dX2_muxValue_44 : decode cX2_muxValue 44 = .ok (.if_icmp .ne 6, 3) := by decide +kernel
theorem dX2_muxValue_47 : decode cX2_muxValue 47 = .ok (.iload 5, 2) := by decide +kernel
theorem dX2_muxValue_49 : decode cX2_muxValue 49 = .ok (.ireturn, 1) := by decide +kernel
theorem dX2_muxValue_50 : decode cX2_muxValue 50 = .ok (.iload 4, 2) := by decide +kernel
theorem dX2_muxValue_52 : decode cX2_muxValue 52 = .ok (.iload 5, 2) := by decide +kernel
theorem dX2_muxValue_54 : decode cX2_muxValue 54 = .ok (.if_icmp .ne 8, 3) := by decide +kernel
theorem dX2_muxValue_57 : decode cX2_muxValue 57 = .ok (.iload 4, 2) := by decide +kernel
theorem dX2_muxValue_59 : decode cX2_muxValue 59 = .ok (.goto 4, 3) := by decide +kernel
theorem dX2_muxValue_62 : decode cX2_muxValue 62 = .ok (.iconst 2, 1) := by decide +kernel
theorem dX2_muxValue_63 : decode cX2_muxValue 63 = .ok (.ireturn, 1) := by decide +kernel
theorem dX2_muxValue_7 : decode cX2_muxValue 7 = .ok (.iaload, 1) := by decide +kernel
theorem dX2_muxValue_8 : decode cX2_muxValue 8 = .ok (.istore_n 3, 1) := by decide +kernel
theorem dX2_muxValue_9 : decode cX2_muxValue 9 = .ok (.aload_n 2, 1) := by decide +kernel
theorem dX2_plainValue_0 : decode cX2_plainValue 0 = .ok (.iload_n 1, 1) := by decide +kernel
theorem dX2_plainValue_1 : decode cX2_plainValue 1 = .ok (.iload_n 2, 1) := by decide +kernel
theorem dX2_plainValue_11 : decode cX2_plainValue 11 = .ok (.iconst 0, 1) := by decide +kernel
theorem dX2_plainValue_12 : decode cX2_plainValue 12 = .ok (.istore 4, 2) := by decide +kernel
theorem dX2_plainValue_14 : decode cX2_plainValue 14 = .ok (.iload_n 0, 1) := by decide +kernel
theorem dX2_plainValue_15 : decode cX2_plainValue 15 = .ok (.lookupswitch 57 #[(2, 25), (4, 44)], 25) := by decide +kernel
theorem dX2_plainValue_2 : decode cX2_plainValue 2 = .ok (.iadd, 1) := by decide +kernel
theorem dX2_plainValue_3 : decode cX2_plainValue 3 = .ok (.iload_n 3, 1) := by decide +kernel
theorem dX2_plainValue_4 : decode cX2_plainValue 4 = .ok (.if_icmp .ne 7, 3) := by decide +kernel
theorem dX2_plainValue_40 : decode cX2_plainValue 40 = .ok (.iload_n 2, 1) := by decide +kernel
theorem dX2_plainValue_41 : decode cX2_plainValue 41 = .ok (.ifCond .le 7, 3) := by decide +kernel
theorem dX2_plainValue_44 : decode cX2_plainValue 44 = .ok (.iconst 1, 1) := by decide +kernel
theorem dX2_plainValue_45 : decode cX2_plainValue 45 = .ok (.goto 13, 3) := by decide +kernel
theorem dX2_plainValue_48 : decode cX2_plainValue 48 = .ok (.iload 4, 2) := by decide +kernel
theorem dX2_plainValue_50 : decode cX2_plainValue 50 = .ok (.ifCond .eq 7, 3) := by decide +kernel
theorem dX2_plainValue_53 : decode cX2_plainValue 53 = .ok (.iconst 0, 1) := by decide +kernel
theorem dX2_plainValue_54 : decode cX2_plainValue 54 = .ok (.goto 4, 3) := by decide +kernel
theorem dX2_plainValue_57 : decode cX2_plainValue 57 = .ok (.iconst 2, 1) := by decide +kernel
theorem dX2_plainValue_58 : decode cX2_plainValue 58 = .ok (.ireturn, 1) := by decide +kernel
theorem dX2_plainValue_59 : decode cX2_plainValue 59 = .ok (.iload 4, 2) := by decide +kernel
theorem dX2_plainValue_61 : decode cX2_plainValue 61 = .ok (.ifCond .eq 9, 3) := by decide +kernel
theorem dX2_plainValue_64 : decode cX2_plainValue 64 = .ok (.iload_n 2, 1) := by decide +kernel
theorem dX2_plainValue_65 : decode cX2_plainValue 65 = .ok (.iconst 1, 1) := by decide +kernel
theorem dX2_plainValue_66 : decode cX2_plainValue 66 = .ok (.iand, 1) := by decide +kernel
theorem dX2_plainValue_67 : decode cX2_plainValue 67 = .ok (.goto 4, 3) := by decide +kernel
theorem dX2_plainValue_7 : decode cX2_plainValue 7 = .ok (.iconst 1, 1) := by decide +kernel
theorem dX2_plainValue_70 : decode cX2_plainValue 70 = .ok (.iconst 2, 1) := by decide +kernel
theorem dX2_plainValue_71 : decode cX2_plainValue 71 = .ok (.ireturn, 1) := by decide +kernel
theorem dX2_plainValue_72 : decode cX2_plainValue 72 = .ok (.iload_n 1, 1) := by decide +kernel
theorem dX2_plainValue_73 : decode cX2_plainValue 73 = .ok (.ifCond .le 7, 3) := by decide +kernel
theorem dX2_plainValue_76 : decode cX2_plainValue 76 = .ok (.iconst 0, 1) := by decide +kernel
theorem dX2_plainValue_77 : decode cX2_plainValue 77 = .ok (.goto 13, 3) := by decide +kernel
theorem dX2_plainValue_8 : decode cX2_plainValue 8 = .ok (.goto 4, 3) := by decide +kernel
theorem dX2_plainValue_80 : decode cX2_plainValue 80 = .ok (.iload 4, 2) := by decide +kernel
theorem dX2_plainValue_82 : decode cX2_plainValue 82 = .ok (.ifCond .eq 7, 3) := by decide +kernel
theorem dX2_plainValue_85 : decode cX2_plainValue 85 = .ok (.iconst 1, 1) := by decide +kernel
theorem dX2_plainValue_86 : decode cX2_plainValue 86 = .ok (.goto 4, 3) := by decide +kernel
theorem dX2_plainValue_89 : decode cX2_plainValue 89 = .ok (.iconst 2, 1) := by decide +kernel
theorem dX2_plainValue_90 : decode cX2_plainValue 90 = .ok (.ireturn, 1) := by decide +kernel
theorem dX2_settle_0 : decode cX2_settle 0 = .ok (.iconst 0, 1) := by decide +kernel
theorem dX2_settle_1 : decode cX2_settle 1 = .ok (.istore_n 2, 1) := by decide +kernel
theorem dX2_settle_10 : decode cX2_settle 10 = .ok (.aload_n 0, 1) := by decide +kernel
theorem dX2_settle_11 : decode cX2_settle 11 = .ok (.getfield 15, 3) := by decide +kernel
theorem dX2_settle_14 : decode cX2_settle 14 = .ok (.iload_n 2, 1) := by decide +kernel
theorem dX2_settle_15 : decode cX2_settle 15 = .ok (.iaload, 1) := by decide +kernel
theorem dX2_settle_16 : decode cX2_settle 16 = .ok (.istore_n 3, 1) := by decide +kernel
theorem dX2_settle_17 : decode cX2_settle 17 = .ok (.aload_n 0, 1) := by decide +kernel
theorem dX2_settle_18 : decode cX2_settle 18 = .ok (.getfield 19, 3) := by decide +kernel
theorem dX2_settle_2 : decode cX2_settle 2 = .ok (.iload_n 2, 1) := by decide +kernel
theorem dX2_settle_21 : decode cX2_settle 21 = .ok (.iload_n 3, 1) := by decide +kernel
theorem dX2_settle_22 : decode cX2_settle 22 = .ok (.iaload, 1) := by decide +kernel
theorem dX2_settle_23 : decode cX2_settle 23 = .ok (.iconst 2, 1) := by decide +kernel
theorem dX2_settle_24 : decode cX2_settle 24 = .ok (.if_icmp .ne 15, 3) := by decide +kernel
theorem dX2_settle_27 : decode cX2_settle 27 = .ok (.aload_n 1, 1) := by decide +kernel
theorem dX2_settle_28 : decode cX2_settle 28 = .ok (.iload_n 3, 1) := by decide +kernel
theorem dX2_settle_29 : decode cX2_settle 29 = .ok (.aload_n 0, 1) := by decide +kernel
theorem dX2_settle_3 : decode cX2_settle 3 = .ok (.aload_n 0, 1) := by decide +kernel
theorem dX2_settle_30 : decode cX2_settle 30 = .ok (.iload_n 3, 1) := by decide +kernel
theorem dX2_settle_31 : decode cX2_settle 31 = .ok (.aload_n 1, 1) := by decide +kernel
theorem dX2_settle_32 : decode cX2_settle 32 = .ok (.invokestatic 22, 3) := by decide +kernel
theorem dX2_settle_35 : decode cX2_settle 35 = .ok (.iastore, 1) := by decide +kernel
theorem dX2_settle_36 : decode cX2_settle 36 = .ok (.goto 22, 3) := by decide +kernel
theorem dX2_settle_39 : decode cX2_settle 39 = .ok (.aload_n 0, 1) := by decide +kernel
theorem dX2_settle_4 : decode cX2_settle 4 = .ok (.getfield 9, 3) := by decide +kernel
theorem dX2_settle_40 : decode cX2_settle 40 = .ok (.getfield 19, 3) := by decide +kernel
theorem dX2_settle_43 : decode cX2_settle 43 = .ok (.iload_n 3, 1) := by decide +kernel
theorem dX2_settle_44 : decode cX2_settle 44 = .ok (.iaload, 1) := by decide +kernel
theorem dX2_settle_45 : decode cX2_settle 45 = .ok (.iconst 1, 1) := by decide +kernel
theorem dX2_settle_46 : decode cX2_settle 46 = .ok (.if_icmp .ne 12, 3) := by decide +kernel
theorem dX2_settle_49 : decode cX2_settle 49 = .ok (.aload_n 1, 1) := by decide +kernel
theorem dX2_settle_50 : decode cX2_settle 50 = .ok (.iload_n 3, 1) := by decide +kernel
theorem dX2_settle_51 : decode cX2_settle 51 = .ok (.aload_n 0, 1) := by decide +kernel
theorem dX2_settle_52 : decode cX2_settle 52 = .ok (.iload_n 3, 1) := by decide +kernel
theorem dX2_settle_53 : decode cX2_settle 53 = .ok (.aload_n 1, 1) := by decide +kernel
theorem dX2_settle_54 : decode cX2_settle 54 = .ok (.invokestatic 28, 3) := by decide +kernel
theorem dX2_settle_57 : decode cX2_settle 57 = .ok (.iastore, 1) := by decide +kernel
theorem dX2_settle_58 : decode cX2_settle 58 = .ok (.iinc 2 1, 3) := by decide +kernel
theorem dX2_settle_61 : decode cX2_settle 61 = .ok (.goto (-59), 3) := by decide +kernel
theorem dX2_settle_64 : decode cX2_settle 64 = .ok (.return_, 1) := by decide +kernel
theorem dX2_settle_7 : decode cX2_settle 7 = .ok (.if_icmp .ge 57, 3) := by decide +kernel
theorem dX2_takenIn_0 : decode cX2_takenIn 0 = .ok (.iload_n 0, 1) := by decide +kernel
theorem dX2_takenIn_1 : decode cX2_takenIn 1 = .ok (.iconst 3, 1) := by decide +kernel
theorem dX2_takenIn_10 : decode cX2_takenIn 10 = .ok (.ireturn, 1) := by decide +kernel
theorem dX2_takenIn_2 : decode cX2_takenIn 2 = .ok (.if_icmp .ne 7, 3) := by decide +kernel
theorem dX2_takenIn_5 : decode cX2_takenIn 5 = .ok (.iconst 2, 1) := by decide +kernel
theorem dX2_takenIn_6 : decode cX2_takenIn 6 = .ok (.goto 4, 3) := by decide +kernel
theorem dX2_takenIn_9 : decode cX2_takenIn 9 = .ok (.iload_n 0, 1) := by decide +kernel
theorem dX3_addUse_0 : decode cX3_addUse 0 = .ok (.aload_n 0, 1) := by decide +kernel
theorem dX3_addUse_1 : decode cX3_addUse 1 = .ok (.getfield 48, 3) := by decide +kernel
theorem dX3_addUse_10 : decode cX3_addUse 10 = .ok (.return_, 1) := by decide +kernel
theorem dX3_addUse_11 : decode cX3_addUse 11 = .ok (.aload_n 0, 1) := by decide +kernel
theorem dX3_addUse_12 : decode cX3_addUse 12 = .ok (.getfield 22, 3) := by decide +kernel
theorem dX3_addUse_15 : decode cX3_addUse 15 = .ok (.aload_n 0, 1) := by decide +kernel
theorem dX3_addUse_16 : decode cX3_addUse 16 = .ok (.getfield 48, 3) := by decide +kernel
theorem dX3_addUse_19 : decode cX3_addUse 19 = .ok (.lload_n 1, 1) := by decide +kernel
theorem dX3_addUse_20 : decode cX3_addUse 20 = .ok (.lastore, 1) := by decide +kernel
theorem dX3_addUse_21 : decode cX3_addUse 21 = .ok (.aload_n 0, 1) := by decide +kernel
theorem dX3_addUse_22 : decode cX3_addUse 22 = .ok (.getfield 26, 3) := by decide +kernel
theorem dX3_addUse_25 : decode cX3_addUse 25 = .ok (.aload_n 0, 1) := by decide +kernel
theorem dX3_addUse_26 : decode cX3_addUse 26 = .ok (.getfield 48, 3) := by decide +kernel
theorem dX3_addUse_29 : decode cX3_addUse 29 = .ok (.iload_n 3, 1) := by decide +kernel
theorem dX3_addUse_30 : decode cX3_addUse 30 = .ok (.iastore, 1) := by decide +kernel
theorem dX3_addUse_31 : decode cX3_addUse 31 = .ok (.aload_n 0, 1) := by decide +kernel
theorem dX3_addUse_32 : decode cX3_addUse 32 = .ok (.getfield 30, 3) := by decide +kernel
theorem dX3_addUse_35 : decode cX3_addUse 35 = .ok (.aload_n 0, 1) := by decide +kernel
theorem dX3_addUse_36 : decode cX3_addUse 36 = .ok (.getfield 48, 3) := by decide +kernel
theorem dX3_addUse_39 : decode cX3_addUse 39 = .ok (.iload 4, 2) := by decide +kernel
theorem dX3_addUse_4 : decode cX3_addUse 4 = .ok (.sipush 667, 3) := by decide +kernel
theorem dX3_addUse_41 : decode cX3_addUse 41 = .ok (.iastore, 1) := by decide +kernel
theorem dX3_addUse_42 : decode cX3_addUse 42 = .ok (.aload_n 0, 1) := by decide +kernel
theorem dX3_addUse_43 : decode cX3_addUse 43 = .ok (.dup, 1) := by decide +kernel
theorem dX3_addUse_44 : decode cX3_addUse 44 = .ok (.getfield 48, 3) := by decide +kernel
theorem dX3_addUse_47 : decode cX3_addUse 47 = .ok (.iconst 1, 1) := by decide +kernel
theorem dX3_addUse_48 : decode cX3_addUse 48 = .ok (.iadd, 1) := by decide +kernel
theorem dX3_addUse_49 : decode cX3_addUse 49 = .ok (.putfield 48, 3) := by decide +kernel
theorem dX3_addUse_52 : decode cX3_addUse 52 = .ok (.return_, 1) := by decide +kernel
theorem dX3_addUse_7 : decode cX3_addUse 7 = .ok (.if_icmp .lt 4, 3) := by decide +kernel
theorem dX3_beginLine_0 : decode cX3_beginLine 0 = .ok (.aload_n 0, 1) := by decide +kernel
theorem dX3_beginLine_1 : decode cX3_beginLine 1 = .ok (.ldc2_w 121, 3) := by decide +kernel
theorem dX3_beginLine_10 : decode cX3_beginLine 10 = .ok (.aload_n 0, 1) := by decide +kernel
theorem dX3_beginLine_11 : decode cX3_beginLine 11 = .ok (.iconst 0, 1) := by decide +kernel
theorem dX3_beginLine_12 : decode cX3_beginLine 12 = .ok (.invokevirtual 127, 3) := by decide +kernel
theorem dX3_beginLine_15 : decode cX3_beginLine 15 = .ok (.ireturn, 1) := by decide +kernel
theorem dX3_beginLine_16 : decode cX3_beginLine 16 = .ok (.aload_n 0, 1) := by decide +kernel
theorem dX3_beginLine_17 : decode cX3_beginLine 17 = .ok (.ldc2_w 130, 3) := by decide +kernel
theorem dX3_beginLine_20 : decode cX3_beginLine 20 = .ok (.invokevirtual 123, 3) := by decide +kernel
theorem dX3_beginLine_23 : decode cX3_beginLine 23 = .ok (.ifCond .eq 9, 3) := by decide +kernel
theorem dX3_beginLine_26 : decode cX3_beginLine 26 = .ok (.aload_n 0, 1) := by decide +kernel
theorem dX3_beginLine_27 : decode cX3_beginLine 27 = .ok (.iconst 1, 1) := by decide +kernel
theorem dX3_beginLine_28 : decode cX3_beginLine 28 = .ok (.invokevirtual 127, 3) := by decide +kernel
theorem dX3_beginLine_31 : decode cX3_beginLine 31 = .ok (.ireturn, 1) := by decide +kernel
theorem dX3_beginLine_32 : decode cX3_beginLine 32 = .ok (.aload_n 0, 1) := by decide +kernel
theorem dX3_beginLine_33 : decode cX3_beginLine 33 = .ok (.ldc2_w 132, 3) := by decide +kernel
theorem dX3_beginLine_36 : decode cX3_beginLine 36 = .ok (.invokevirtual 123, 3) := by decide +kernel
theorem dX3_beginLine_39 : decode cX3_beginLine 39 = .ok (.ifCond .eq 9, 3) := by decide +kernel
theorem dX3_beginLine_4 : decode cX3_beginLine 4 = .ok (.invokevirtual 123, 3) := by decide +kernel
theorem dX3_beginLine_42 : decode cX3_beginLine 42 = .ok (.aload_n 0, 1) := by decide +kernel
theorem dX3_beginLine_43 : decode cX3_beginLine 43 = .ok (.iconst 3, 1) := by decide +kernel
theorem dX3_beginLine_44 : decode cX3_beginLine 44 = .ok (.invokevirtual 127, 3) := by decide +kernel
theorem dX3_beginLine_47 : decode cX3_beginLine 47 = .ok (.ireturn, 1) := by decide +kernel
theorem dX3_beginLine_48 : decode cX3_beginLine 48 = .ok (.aload_n 0, 1) := by decide +kernel
theorem dX3_beginLine_49 : decode cX3_beginLine 49 = .ok (.invokevirtual 134, 3) := by decide +kernel
theorem dX3_beginLine_52 : decode cX3_beginLine 52 = .ok (.ifCond .ne 8, 3) := by decide +kernel
theorem dX3_beginLine_55 : decode cX3_beginLine 55 = .ok (.aload_n 0, 1) := by decide +kernel
theorem dX3_beginLine_56 : decode cX3_beginLine 56 = .ok (.invokevirtual 80, 3) := by decide +kernel
theorem dX3_beginLine_59 : decode cX3_beginLine 59 = .ok (.ireturn, 1) := by decide +kernel
theorem dX3_beginLine_60 : decode cX3_beginLine 60 = .ok (.aload_n 0, 1) := by decide +kernel
theorem dX3_beginLine_61 : decode cX3_beginLine 61 = .ok (.aload_n 0, 1) := by decide +kernel
theorem dX3_beginLine_62 : decode cX3_beginLine 62 = .ok (.getfield 18, 3) := by decide +kernel
theorem dX3_beginLine_65 : decode cX3_beginLine 65 = .ok (.getfield 137, 3) := by decide +kernel
theorem dX3_beginLine_68 : decode cX3_beginLine 68 = .ok (.putfield 141, 3) := by decide +kernel
theorem dX3_beginLine_7 : decode cX3_beginLine 7 = .ok (.ifCond .eq 9, 3) := by decide +kernel
theorem dX3_beginLine_71 : decode cX3_beginLine 71 = .ok (.aload_n 0, 1) := by decide +kernel
theorem dX3_beginLine_72 : decode cX3_beginLine 72 = .ok (.aload_n 0, 1) := by decide +kernel
theorem dX3_beginLine_73 : decode cX3_beginLine 73 = .ok (.getfield 18, 3) := by decide +kernel
theorem dX3_beginLine_76 : decode cX3_beginLine 76 = .ok (.getfield 114, 3) := by decide +kernel
theorem dX3_beginLine_79 : decode cX3_beginLine 79 = .ok (.putfield 144, 3) := by decide +kernel
theorem dX3_beginLine_82 : decode cX3_beginLine 82 = .ok (.aload_n 0, 1) := by decide +kernel
theorem dX3_beginLine_83 : decode cX3_beginLine 83 = .ok (.iconst 3, 1) := by decide +kernel
theorem dX3_beginLine_84 : decode cX3_beginLine 84 = .ok (.invokevirtual 89, 3) := by decide +kernel
theorem dX3_beginLine_87 : decode cX3_beginLine 87 = .ok (.ireturn, 1) := by decide +kernel
theorem dX3_beginParts_0 : decode cX3_beginParts 0 = .ok (.aload_n 0, 1) := by decide +kernel
theorem dX3_beginParts_1 : decode cX3_beginParts 1 = .ok (.iload_n 1, 1) := by decide +kernel
theorem dX3_beginParts_10 : decode cX3_beginParts 10 = .ok (.aload_n 0, 1) := by decide +kernel
theorem dX3_beginParts_11 : decode cX3_beginParts 11 = .ok (.iload_n 3, 1) := by decide +kernel
theorem dX3_beginParts_12 : decode cX3_beginParts 12 = .ok (.putfield 204, 3) := by decide +kernel
theorem dX3_beginParts_15 : decode cX3_beginParts 15 = .ok (.aload_n 0, 1) := by decide +kernel
theorem dX3_beginParts_16 : decode cX3_beginParts 16 = .ok (.iconst 0, 1) := by decide +kernel
theorem dX3_beginParts_17 : decode cX3_beginParts 17 = .ok (.putfield 207, 3) := by decide +kernel
theorem dX3_beginParts_2 : decode cX3_beginParts 2 = .ok (.putfield 198, 3) := by decide +kernel
theorem dX3_beginParts_20 : decode cX3_beginParts 20 = .ok (.aload_n 0, 1) := by decide +kernel
theorem dX3_beginParts_21 : decode cX3_beginParts 21 = .ok (.bipush 6, 2) := by decide +kernel
theorem dX3_beginParts_23 : decode cX3_beginParts 23 = .ok (.invokevirtual 89, 3) := by decide +kernel
theorem dX3_beginParts_26 : decode cX3_beginParts 26 = .ok (.ireturn, 1) := by decide +kernel
theorem dX3_beginParts_5 : decode cX3_beginParts 5 = .ok (.aload_n 0, 1) := by decide +kernel
theorem dX3_beginParts_6 : decode cX3_beginParts 6 = .ok (.iload_n 2, 1) := by decide +kernel
theorem dX3_beginParts_7 : decode cX3_beginParts 7 = .ok (.putfield 201, 3) := by decide +kernel
theorem dX3_beginTelling_0 : decode cX3_beginTelling 0 = .ok (.aload_n 0, 1) := by decide +kernel
theorem dX3_beginTelling_1 : decode cX3_beginTelling 1 = .ok (.iload_n 1, 1) := by decide +kernel
theorem dX3_beginTelling_10 : decode cX3_beginTelling 10 = .ok (.ireturn, 1) := by decide +kernel
theorem dX3_beginTelling_2 : decode cX3_beginTelling 2 = .ok (.putfield 147, 3) := by decide +kernel
theorem dX3_beginTelling_5 : decode cX3_beginTelling 5 = .ok (.aload_n 0, 1) := by decide +kernel
theorem dX3_beginTelling_6 : decode cX3_beginTelling 6 = .ok (.iconst 1, 1) := by decide +kernel
theorem dX3_beginTelling_7 : decode cX3_beginTelling 7 = .ok (.invokevirtual 89, 3) := by decide +kernel
theorem dX3_behindPart_0 : decode cX3_behindPart 0 = .ok (.aload_n 0, 1) := by decide +kernel
theorem dX3_behindPart_1 : decode cX3_behindPart 1 = .ok (.getfield 18, 3) := by decide +kernel
theorem dX3_behindPart_12 : decode cX3_behindPart 12 = .ok (.aload_n 0, 1) := by decide +kernel
theorem dX3_behindPart_13 : decode cX3_behindPart 13 = .ok (.getfield 147, 3) := by decide +kernel
theorem dX3_behindPart_16 : decode cX3_behindPart 16 = .ok (.iconst 2, 1) := by decide +kernel
theorem dX3_behindPart_17 : decode cX3_behindPart 17 = .ok (.if_icmp .eq 14, 3) := by decide +kernel
theorem dX3_behindPart_20 : decode cX3_behindPart 20 = .ok (.aload_n 0, 1) := by decide +kernel
theorem dX3_behindPart_21 : decode cX3_behindPart 21 = .ok (.getfield 207, 3) := by decide +kernel
theorem dX3_behindPart_24 : decode cX3_behindPart 24 = .ok (.aload_n 0, 1) := by decide +kernel
theorem dX3_behindPart_25 : decode cX3_behindPart 25 = .ok (.getfield 204, 3) := by decide +kernel
theorem dX3_behindPart_28 : decode cX3_behindPart 28 = .ok (.if_icmp .ge 10, 3) := by decide +kernel
theorem dX3_behindPart_31 : decode cX3_behindPart 31 = .ok (.aload_n 0, 1) := by decide +kernel
theorem dX3_behindPart_32 : decode cX3_behindPart 32 = .ok (.bipush 7, 2) := by decide +kernel
theorem dX3_behindPart_34 : decode cX3_behindPart 34 = .ok (.invokevirtual 89, 3) := by decide +kernel
theorem dX3_behindPart_37 : decode cX3_behindPart 37 = .ok (.ireturn, 1) := by decide +kernel
theorem dX3_behindPart_38 : decode cX3_behindPart 38 = .ok (.aload_n 0, 1) := by decide +kernel
theorem dX3_behindPart_39 : decode cX3_behindPart 39 = .ok (.getfield 18, 3) := by decide +kernel
theorem dX3_behindPart_4 : decode cX3_behindPart 4 = .ok (.getfield 74, 3) := by decide +kernel
theorem dX3_behindPart_42 : decode cX3_behindPart 42 = .ok (.getfield 74, 3) := by decide +kernel
theorem dX3_behindPart_45 : decode cX3_behindPart 45 = .ok (.bipush 41, 2) := by decide +kernel
theorem dX3_behindPart_47 : decode cX3_behindPart 47 = .ok (.if_icmp .ne 34, 3) := by decide +kernel
theorem dX3_behindPart_50 : decode cX3_behindPart 50 = .ok (.aload_n 0, 1) := by decide +kernel
theorem dX3_behindPart_51 : decode cX3_behindPart 51 = .ok (.getfield 207, 3) := by decide +kernel
theorem dX3_behindPart_54 : decode cX3_behindPart 54 = .ok (.aload_n 0, 1) := by decide +kernel
theorem dX3_behindPart_55 : decode cX3_behindPart 55 = .ok (.getfield 201, 3) := by decide +kernel
theorem dX3_behindPart_58 : decode cX3_behindPart 58 = .ok (.if_icmp .lt 23, 3) := by decide +kernel
theorem dX3_behindPart_61 : decode cX3_behindPart 61 = .ok (.aload_n 0, 1) := by decide +kernel
theorem dX3_behindPart_62 : decode cX3_behindPart 62 = .ok (.aload_n 0, 1) := by decide +kernel
theorem dX3_behindPart_63 : decode cX3_behindPart 63 = .ok (.getfield 147, 3) := by decide +kernel
theorem dX3_behindPart_66 : decode cX3_behindPart 66 = .ok (.iconst 2, 1) := by decide +kernel
theorem dX3_behindPart_67 : decode cX3_behindPart 67 = .ok (.if_icmp .ne 8, 3) := by decide +kernel
theorem dX3_behindPart_7 : decode cX3_behindPart 7 = .ok (.bipush 44, 2) := by decide +kernel
theorem dX3_behindPart_70 : decode cX3_behindPart 70 = .ok (.bipush 9, 2) := by decide +kernel
theorem dX3_behindPart_72 : decode cX3_behindPart 72 = .ok (.goto 5, 3) := by decide +kernel
theorem dX3_behindPart_75 : decode cX3_behindPart 75 = .ok (.bipush 10, 2) := by decide +kernel
theorem dX3_behindPart_77 : decode cX3_behindPart 77 = .ok (.invokevirtual 89, 3) := by decide +kernel
theorem dX3_behindPart_80 : decode cX3_behindPart 80 = .ok (.ireturn, 1) := by decide +kernel
theorem dX3_behindPart_81 : decode cX3_behindPart 81 = .ok (.aload_n 0, 1) := by decide +kernel
theorem dX3_behindPart_82 : decode cX3_behindPart 82 = .ok (.invokevirtual 80, 3) := by decide +kernel
theorem dX3_behindPart_85 : decode cX3_behindPart 85 = .ok (.ireturn, 1) := by decide +kernel
theorem dX3_behindPart_9 : decode cX3_behindPart 9 = .ok (.if_icmp .ne 29, 3) := by decide +kernel
theorem dX3_checkDrivers_0 : decode cX3_checkDrivers 0 = .ok (.iconst 0, 1) := by decide +kernel
theorem dX3_checkDrivers_1 : decode cX3_checkDrivers 1 = .ok (.istore_n 1, 1) := by decide +kernel
theorem dX3_checkDrivers_12 : decode cX3_checkDrivers 12 = .ok (.aload_n 0, 1) := by decide +kernel
theorem dX3_checkDrivers_13 : decode cX3_checkDrivers 13 = .ok (.getfield 30, 3) := by decide +kernel
theorem dX3_checkDrivers_16 : decode cX3_checkDrivers 16 = .ok (.iload_n 2, 1) := by decide +kernel
theorem dX3_checkDrivers_17 : decode cX3_checkDrivers 17 = .ok (.iaload, 1) := by decide +kernel
theorem dX3_checkDrivers_18 : decode cX3_checkDrivers 18 = .ok (.invokestatic 172, 3) := by decide +kernel
theorem dX3_checkDrivers_2 : decode cX3_checkDrivers 2 = .ok (.iconst 0, 1) := by decide +kernel
theorem dX3_checkDrivers_21 : decode cX3_checkDrivers 21 = .ok (.ifCond .eq 20, 3) := by decide +kernel
theorem dX3_checkDrivers_24 : decode cX3_checkDrivers 24 = .ok (.aload_n 0, 1) := by decide +kernel
theorem dX3_checkDrivers_25 : decode cX3_checkDrivers 25 = .ok (.getfield 22, 3) := by decide +kernel
theorem dX3_checkDrivers_28 : decode cX3_checkDrivers 28 = .ok (.iload_n 2, 1) := by decide +kernel
theorem dX3_checkDrivers_29 : decode cX3_checkDrivers 29 = .ok (.laload, 1) := by decide +kernel
theorem dX3_checkDrivers_3 : decode cX3_checkDrivers 3 = .ok (.istore_n 2, 1) := by decide +kernel
theorem dX3_checkDrivers_30 : decode cX3_checkDrivers 30 = .ok (.aload_n 0, 1) := by decide +kernel
theorem dX3_checkDrivers_31 : decode cX3_checkDrivers 31 = .ok (.getfield 141, 3) := by decide +kernel
theorem dX3_checkDrivers_34 : decode cX3_checkDrivers 34 = .ok (.lcmp, 1) := by decide +kernel
theorem dX3_checkDrivers_35 : decode cX3_checkDrivers 35 = .ok (.ifCond .ne 6, 3) := by decide +kernel
theorem dX3_checkDrivers_38 : decode cX3_checkDrivers 38 = .ok (.iinc 1 1, 3) := by decide +kernel
theorem dX3_checkDrivers_4 : decode cX3_checkDrivers 4 = .ok (.iload_n 2, 1) := by decide +kernel
theorem dX3_checkDrivers_41 : decode cX3_checkDrivers 41 = .ok (.iinc 2 1, 3) := by decide +kernel
theorem dX3_checkDrivers_44 : decode cX3_checkDrivers 44 = .ok (.goto (-40), 3) := by decide +kernel
theorem dX3_checkDrivers_47 : decode cX3_checkDrivers 47 = .ok (.iload_n 1, 1) := by decide +kernel
theorem dX3_checkDrivers_48 : decode cX3_checkDrivers 48 = .ok (.bipush 6, 2) := by decide +kernel
theorem dX3_checkDrivers_5 : decode cX3_checkDrivers 5 = .ok (.aload_n 0, 1) := by decide +kernel
theorem dX3_checkDrivers_50 : decode cX3_checkDrivers 50 = .ok (.if_icmp .lt 15, 3) := by decide +kernel
theorem dX3_checkDrivers_53 : decode cX3_checkDrivers 53 = .ok (.aload_n 0, 1) := by decide +kernel
theorem dX3_checkDrivers_54 : decode cX3_checkDrivers 54 = .ok (.iconst 2, 1) := by decide +kernel
theorem dX3_checkDrivers_55 : decode cX3_checkDrivers 55 = .ok (.aload_n 0, 1) := by decide +kernel
theorem dX3_checkDrivers_56 : decode cX3_checkDrivers 56 = .ok (.getfield 144, 3) := by decide +kernel
theorem dX3_checkDrivers_59 : decode cX3_checkDrivers 59 = .ok (.invokevirtual 117, 3) := by decide +kernel
theorem dX3_checkDrivers_6 : decode cX3_checkDrivers 6 = .ok (.getfield 48, 3) := by decide +kernel
theorem dX3_checkDrivers_62 : decode cX3_checkDrivers 62 = .ok (.ifCond .eq 7, 3) := by decide +kernel
theorem dX3_checkDrivers_65 : decode cX3_checkDrivers 65 = .ok (.iconst 1, 1) := by decide +kernel
theorem dX3_checkDrivers_66 : decode cX3_checkDrivers 66 = .ok (.goto 4, 3) := by decide +kernel
theorem dX3_checkDrivers_69 : decode cX3_checkDrivers 69 = .ok (.iconst 0, 1) := by decide +kernel
theorem dX3_checkDrivers_70 : decode cX3_checkDrivers 70 = .ok (.ireturn, 1) := by decide +kernel
theorem dX3_checkDrivers_9 : decode cX3_checkDrivers 9 = .ok (.if_icmp .ge 38, 3) := by decide +kernel
theorem dX3_checkLoops_0 : decode cX3_checkLoops 0 = .ok (.aload_n 0, 1) := by decide +kernel
theorem dX3_checkLoops_1 : decode cX3_checkLoops 1 = .ok (.getfield 36, 3) := by decide +kernel
theorem dX3_checkLoops_100 : decode cX3_checkLoops 100 = .ok (.lcmp, 1) := by decide +kernel
theorem dX3_checkLoops_101 : decode cX3_checkLoops 101 = .ok (.ifCond .ne 18, 3) := by decide +kernel
theorem dX3_checkLoops_104 : decode cX3_checkLoops 104 = .ok (.aload_n 0, 1) := by decide +kernel
theorem dX3_checkLoops_105 : decode cX3_checkLoops 105 = .ok (.iconst 5, 1) := by decide +kernel
theorem dX3_checkLoops_106 : decode cX3_checkLoops 106 = .ok (.aload_n 0, 1) := by decide +kernel
theorem dX3_checkLoops_107 : decode cX3_checkLoops 107 = .ok (.getfield 36, 3) := by decide +kernel
theorem dX3_checkLoops_110 : decode cX3_checkLoops 110 = .ok (.getfield 239, 3) := by decide +kernel
theorem dX3_checkLoops_113 : decode cX3_checkLoops 113 = .ok (.iload_n 2, 1) := by decide +kernel
theorem dX3_checkLoops_114 : decode cX3_checkLoops 114 = .ok (.iaload, 1) := by decide +kernel
theorem dX3_checkLoops_115 : decode cX3_checkLoops 115 = .ok (.invokevirtual 117, 3) := by decide +kernel
theorem dX3_checkLoops_118 : decode cX3_checkLoops 118 = .ok (.ireturn, 1) := by decide +kernel
theorem dX3_checkLoops_119 : decode cX3_checkLoops 119 = .ok (.iinc 2 1, 3) := by decide +kernel
theorem dX3_checkLoops_12 : decode cX3_checkLoops 12 = .ok (.getfield 230, 3) := by decide +kernel
theorem dX3_checkLoops_122 : decode cX3_checkLoops 122 = .ok (.goto (-38), 3) := by decide +kernel
theorem dX3_checkLoops_125 : decode cX3_checkLoops 125 = .ok (.iconst 1, 1) := by decide +kernel
theorem dX3_checkLoops_126 : decode cX3_checkLoops 126 = .ok (.ireturn, 1) := by decide +kernel
theorem dX3_checkLoops_15 : decode cX3_checkLoops 15 = .ok (.iconst 0, 1) := by decide +kernel
theorem dX3_checkLoops_16 : decode cX3_checkLoops 16 = .ok (.aload_n 0, 1) := by decide +kernel
theorem dX3_checkLoops_17 : decode cX3_checkLoops 17 = .ok (.getfield 33, 3) := by decide +kernel
theorem dX3_checkLoops_20 : decode cX3_checkLoops 20 = .ok (.iconst 0, 1) := by decide +kernel
theorem dX3_checkLoops_21 : decode cX3_checkLoops 21 = .ok (.bipush 60, 2) := by decide +kernel
theorem dX3_checkLoops_23 : decode cX3_checkLoops 23 = .ok (.invokestatic 233, 3) := by decide +kernel
theorem dX3_checkLoops_26 : decode cX3_checkLoops 26 = .ok (.iconst 0, 1) := by decide +kernel
theorem dX3_checkLoops_27 : decode cX3_checkLoops 27 = .ok (.istore_n 2, 1) := by decide +kernel
theorem dX3_checkLoops_28 : decode cX3_checkLoops 28 = .ok (.iload_n 2, 1) := by decide +kernel
theorem dX3_checkLoops_29 : decode cX3_checkLoops 29 = .ok (.iload_n 1, 1) := by decide +kernel
theorem dX3_checkLoops_30 : decode cX3_checkLoops 30 = .ok (.if_icmp .ge 52, 3) := by decide +kernel
theorem dX3_checkLoops_33 : decode cX3_checkLoops 33 = .ok (.iconst 0, 1) := by decide +kernel
theorem dX3_checkLoops_34 : decode cX3_checkLoops 34 = .ok (.istore_n 3, 1) := by decide +kernel
theorem dX3_checkLoops_35 : decode cX3_checkLoops 35 = .ok (.iload_n 3, 1) := by decide +kernel
theorem dX3_checkLoops_36 : decode cX3_checkLoops 36 = .ok (.iload_n 1, 1) := by decide +kernel
theorem dX3_checkLoops_37 : decode cX3_checkLoops 37 = .ok (.if_icmp .ge 39, 3) := by decide +kernel
theorem dX3_checkLoops_4 : decode cX3_checkLoops 4 = .ok (.getfield 154, 3) := by decide +kernel
theorem dX3_checkLoops_40 : decode cX3_checkLoops 40 = .ok (.aload_n 0, 1) := by decide +kernel
theorem dX3_checkLoops_41 : decode cX3_checkLoops 41 = .ok (.getfield 33, 3) := by decide +kernel
theorem dX3_checkLoops_44 : decode cX3_checkLoops 44 = .ok (.iload_n 3, 1) := by decide +kernel
theorem dX3_checkLoops_45 : decode cX3_checkLoops 45 = .ok (.laload, 1) := by decide +kernel
theorem dX3_checkLoops_46 : decode cX3_checkLoops 46 = .ok (.iload_n 2, 1) := by decide +kernel
theorem dX3_checkLoops_47 : decode cX3_checkLoops 47 = .ok (.lushr, 1) := by decide +kernel
theorem dX3_checkLoops_48 : decode cX3_checkLoops 48 = .ok (.lconst 1, 1) := by decide +kernel
theorem dX3_checkLoops_49 : decode cX3_checkLoops 49 = .ok (.land, 1) := by decide +kernel
theorem dX3_checkLoops_50 : decode cX3_checkLoops 50 = .ok (.lconst 1, 1) := by decide +kernel
theorem dX3_checkLoops_51 : decode cX3_checkLoops 51 = .ok (.lcmp, 1) := by decide +kernel
theorem dX3_checkLoops_52 : decode cX3_checkLoops 52 = .ok (.ifCond .ne 18, 3) := by decide +kernel
theorem dX3_checkLoops_55 : decode cX3_checkLoops 55 = .ok (.aload_n 0, 1) := by decide +kernel
theorem dX3_checkLoops_56 : decode cX3_checkLoops 56 = .ok (.getfield 33, 3) := by decide +kernel
theorem dX3_checkLoops_59 : decode cX3_checkLoops 59 = .ok (.iload_n 3, 1) := by decide +kernel
theorem dX3_checkLoops_60 : decode cX3_checkLoops 60 = .ok (.dup2, 1) := by decide +kernel
theorem dX3_checkLoops_61 : decode cX3_checkLoops 61 = .ok (.laload, 1) := by decide +kernel
theorem dX3_checkLoops_62 : decode cX3_checkLoops 62 = .ok (.aload_n 0, 1) := by decide +kernel
theorem dX3_checkLoops_63 : decode cX3_checkLoops 63 = .ok (.getfield 33, 3) := by decide +kernel
theorem dX3_checkLoops_66 : decode cX3_checkLoops 66 = .ok (.iload_n 2, 1) := by decide +kernel
theorem dX3_checkLoops_67 : decode cX3_checkLoops 67 = .ok (.laload, 1) := by decide +kernel
theorem dX3_checkLoops_68 : decode cX3_checkLoops 68 = .ok (.lor, 1) := by decide +kernel
theorem dX3_checkLoops_69 : decode cX3_checkLoops 69 = .ok (.lastore, 1) := by decide +kernel
theorem dX3_checkLoops_7 : decode cX3_checkLoops 7 = .ok (.istore_n 1, 1) := by decide +kernel
theorem dX3_checkLoops_70 : decode cX3_checkLoops 70 = .ok (.iinc 3 1, 3) := by decide +kernel
theorem dX3_checkLoops_73 : decode cX3_checkLoops 73 = .ok (.goto (-38), 3) := by decide +kernel
theorem dX3_checkLoops_76 : decode cX3_checkLoops 76 = .ok (.iinc 2 1, 3) := by decide +kernel
theorem dX3_checkLoops_79 : decode cX3_checkLoops 79 = .ok (.goto (-51), 3) := by decide +kernel
theorem dX3_checkLoops_8 : decode cX3_checkLoops 8 = .ok (.aload_n 0, 1) := by decide +kernel
theorem dX3_checkLoops_82 : decode cX3_checkLoops 82 = .ok (.iconst 0, 1) := by decide +kernel
theorem dX3_checkLoops_83 : decode cX3_checkLoops 83 = .ok (.istore_n 2, 1) := by decide +kernel
theorem dX3_checkLoops_84 : decode cX3_checkLoops 84 = .ok (.iload_n 2, 1) := by decide +kernel
theorem dX3_checkLoops_85 : decode cX3_checkLoops 85 = .ok (.iload_n 1, 1) := by decide +kernel
theorem dX3_checkLoops_86 : decode cX3_checkLoops 86 = .ok (.if_icmp .ge 39, 3) := by decide +kernel
theorem dX3_checkLoops_89 : decode cX3_checkLoops 89 = .ok (.aload_n 0, 1) := by decide +kernel
theorem dX3_checkLoops_9 : decode cX3_checkLoops 9 = .ok (.getfield 36, 3) := by decide +kernel
theorem dX3_checkLoops_90 : decode cX3_checkLoops 90 = .ok (.getfield 33, 3) := by decide +kernel
theorem dX3_checkLoops_93 : decode cX3_checkLoops 93 = .ok (.iload_n 2, 1) := by decide +kernel
theorem dX3_checkLoops_94 : decode cX3_checkLoops 94 = .ok (.laload, 1) := by decide +kernel
theorem dX3_checkLoops_95 : decode cX3_checkLoops 95 = .ok (.iload_n 2, 1) := by decide +kernel
theorem dX3_checkLoops_96 : decode cX3_checkLoops 96 = .ok (.lushr, 1) := by decide +kernel
theorem dX3_checkLoops_97 : decode cX3_checkLoops 97 = .ok (.lconst 1, 1) := by decide +kernel
theorem dX3_checkLoops_98 : decode cX3_checkLoops 98 = .ok (.land, 1) := by decide +kernel
theorem dX3_checkLoops_99 : decode cX3_checkLoops 99 = .ok (.lconst 1, 1) := by decide +kernel
theorem dX3_endLine_0 : decode cX3_endLine 0 = .ok (.aload_n 0, 1) := by decide +kernel
theorem dX3_endLine_1 : decode cX3_endLine 1 = .ok (.getfield 18, 3) := by decide +kernel
theorem dX3_endLine_12 : decode cX3_endLine 12 = .ok (.aload_n 0, 1) := by decide +kernel
theorem dX3_endLine_13 : decode cX3_endLine 13 = .ok (.iconst 0, 1) := by decide +kernel
theorem dX3_endLine_14 : decode cX3_endLine 14 = .ok (.invokevirtual 89, 3) := by decide +kernel
theorem dX3_endLine_17 : decode cX3_endLine 17 = .ok (.goto 7, 3) := by decide +kernel
theorem dX3_endLine_20 : decode cX3_endLine 20 = .ok (.aload_n 0, 1) := by decide +kernel
theorem dX3_endLine_21 : decode cX3_endLine 21 = .ok (.invokevirtual 80, 3) := by decide +kernel
theorem dX3_endLine_24 : decode cX3_endLine 24 = .ok (.ireturn, 1) := by decide +kernel
theorem dX3_endLine_4 : decode cX3_endLine 4 = .ok (.getfield 74, 3) := by decide +kernel
theorem dX3_endLine_7 : decode cX3_endLine 7 = .ok (.bipush 59, 2) := by decide +kernel
theorem dX3_endLine_9 : decode cX3_endLine 9 = .ok (.if_icmp .ne 11, 3) := by decide +kernel
theorem dX3_failAt_0 : decode cX3_failAt 0 = .ok (.aload_n 0, 1) := by decide +kernel
theorem dX3_failAt_1 : decode cX3_failAt 1 = .ok (.iload_n 1, 1) := by decide +kernel
theorem dX3_failAt_10 : decode cX3_failAt 10 = .ok (.iconst 0, 1) := by decide +kernel
theorem dX3_failAt_11 : decode cX3_failAt 11 = .ok (.ireturn, 1) := by decide +kernel
theorem dX3_failAt_2 : decode cX3_failAt 2 = .ok (.putfield 45, 3) := by decide +kernel
theorem dX3_failAt_5 : decode cX3_failAt 5 = .ok (.aload_n 0, 1) := by decide +kernel
theorem dX3_failAt_6 : decode cX3_failAt 6 = .ok (.iload_n 2, 1) := by decide +kernel
theorem dX3_failAt_7 : decode cX3_failAt 7 = .ok (.putfield 9, 3) := by decide +kernel
theorem dX3_gateHere_0 : decode cX3_gateHere 0 = .ok (.iconst 0, 1) := by decide +kernel
theorem dX3_gateHere_1 : decode cX3_gateHere 1 = .ok (.istore_n 1, 1) := by decide +kernel
theorem dX3_gateHere_10 : decode cX3_gateHere 10 = .ok (.aload_n 0, 1) := by decide +kernel
theorem dX3_gateHere_11 : decode cX3_gateHere 11 = .ok (.getfield 18, 3) := by decide +kernel
theorem dX3_gateHere_14 : decode cX3_gateHere 14 = .ok (.getfield 74, 3) := by decide +kernel
theorem dX3_gateHere_17 : decode cX3_gateHere 17 = .ok (.iconst 2, 1) := by decide +kernel
theorem dX3_gateHere_18 : decode cX3_gateHere 18 = .ok (.if_icmp .ne 27, 3) := by decide +kernel
theorem dX3_gateHere_2 : decode cX3_gateHere 2 = .ok (.iload_n 1, 1) := by decide +kernel
theorem dX3_gateHere_21 : decode cX3_gateHere 21 = .ok (.aload_n 0, 1) := by decide +kernel
theorem dX3_gateHere_22 : decode cX3_gateHere 22 = .ok (.getfield 18, 3) := by decide +kernel
theorem dX3_gateHere_25 : decode cX3_gateHere 25 = .ok (.getfield 137, 3) := by decide +kernel
theorem dX3_gateHere_28 : decode cX3_gateHere 28 = .ok (.getstatic 216, 3) := by decide +kernel
theorem dX3_gateHere_3 : decode cX3_gateHere 3 = .ok (.getstatic 216, 3) := by decide +kernel
theorem dX3_gateHere_31 : decode cX3_gateHere 31 = .ok (.iload_n 1, 1) := by decide +kernel
theorem dX3_gateHere_32 : decode cX3_gateHere 32 = .ok (.laload, 1) := by decide +kernel
theorem dX3_gateHere_33 : decode cX3_gateHere 33 = .ok (.lcmp, 1) := by decide +kernel
theorem dX3_gateHere_34 : decode cX3_gateHere 34 = .ok (.ifCond .ne 5, 3) := by decide +kernel
theorem dX3_gateHere_37 : decode cX3_gateHere 37 = .ok (.iload_n 1, 1) := by decide +kernel
theorem dX3_gateHere_38 : decode cX3_gateHere 38 = .ok (.ireturn, 1) := by decide +kernel
theorem dX3_gateHere_39 : decode cX3_gateHere 39 = .ok (.iinc 1 1, 3) := by decide +kernel
theorem dX3_gateHere_42 : decode cX3_gateHere 42 = .ok (.goto (-40), 3) := by decide +kernel
theorem dX3_gateHere_45 : decode cX3_gateHere 45 = .ok (.iconst (-1), 1) := by decide +kernel
theorem dX3_gateHere_46 : decode cX3_gateHere 46 = .ok (.ireturn, 1) := by decide +kernel
theorem dX3_gateHere_6 : decode cX3_gateHere 6 = .ok (.arraylength, 1) := by decide +kernel
theorem dX3_gateHere_7 : decode cX3_gateHere 7 = .ok (.if_icmp .ge 38, 3) := by decide +kernel
theorem dX3_go_0 : decode cX3_go 0 = .ok (.aload_n 0, 1) := by decide +kernel
theorem dX3_go_1 : decode cX3_go 1 = .ok (.iload_n 1, 1) := by decide +kernel
theorem dX3_go_2 : decode cX3_go 2 = .ok (.putfield 68, 3) := by decide +kernel
theorem dX3_go_5 : decode cX3_go 5 = .ok (.iconst 1, 1) := by decide +kernel
theorem dX3_go_6 : decode cX3_go 6 = .ok (.ireturn, 1) := by decide +kernel
theorem dX3_isHead_0 : decode cX3_isHead 0 = .ok (.iload_n 0, 1) := by decide +kernel
theorem dX3_isHead_1 : decode cX3_isHead 1 = .ok (.iconst (-1), 1) := by decide +kernel
theorem dX3_isHead_11 : decode cX3_isHead 11 = .ok (.iconst 1, 1) := by decide +kernel
theorem dX3_isHead_12 : decode cX3_isHead 12 = .ok (.goto 4, 3) := by decide +kernel
theorem dX3_isHead_15 : decode cX3_isHead 15 = .ok (.iconst 0, 1) := by decide +kernel
theorem dX3_isHead_16 : decode cX3_isHead 16 = .ok (.ireturn, 1) := by decide +kernel
theorem dX3_isHead_2 : decode cX3_isHead 2 = .ok (.if_icmp .eq 9, 3) := by decide +kernel
theorem dX3_isHead_5 : decode cX3_isHead 5 = .ok (.iload_n 0, 1) := by decide +kernel
theorem dX3_isHead_6 : decode cX3_isHead 6 = .ok (.bipush (-2), 2) := by decide +kernel
theorem dX3_isHead_8 : decode cX3_isHead 8 = .ok (.if_icmp .ne 7, 3) := by decide +kernel
theorem dX3_isName_0 : decode cX3_isName 0 = .ok (.aload_n 0, 1) := by decide +kernel
theorem dX3_isName_1 : decode cX3_isName 1 = .ok (.getfield 18, 3) := by decide +kernel
theorem dX3_isName_11 : decode cX3_isName 11 = .ok (.aload_n 0, 1) := by decide +kernel
theorem dX3_isName_12 : decode cX3_isName 12 = .ok (.invokevirtual 175, 3) := by decide +kernel
theorem dX3_isName_15 : decode cX3_isName 15 = .ok (.iconst (-1), 1) := by decide +kernel
theorem dX3_isName_16 : decode cX3_isName 16 = .ok (.if_icmp .eq 5, 3) := by decide +kernel
theorem dX3_isName_19 : decode cX3_isName 19 = .ok (.iconst 0, 1) := by decide +kernel
theorem dX3_isName_20 : decode cX3_isName 20 = .ok (.ireturn, 1) := by decide +kernel
theorem dX3_isName_21 : decode cX3_isName 21 = .ok (.aload_n 0, 1) := by decide +kernel
theorem dX3_isName_22 : decode cX3_isName 22 = .ok (.getfield 18, 3) := by decide +kernel
theorem dX3_isName_25 : decode cX3_isName 25 = .ok (.getfield 137, 3) := by decide +kernel
theorem dX3_isName_28 : decode cX3_isName 28 = .ok (.lstore_n 1, 1) := by decide +kernel
theorem dX3_isName_29 : decode cX3_isName 29 = .ok (.lload_n 1, 1) := by decide +kernel
theorem dX3_isName_30 : decode cX3_isName 30 = .ok (.ldc2_w 121, 3) := by decide +kernel
theorem dX3_isName_33 : decode cX3_isName 33 = .ok (.lcmp, 1) := by decide +kernel
theorem dX3_isName_34 : decode cX3_isName 34 = .ok (.ifCond .eq 39, 3) := by decide +kernel
theorem dX3_isName_37 : decode cX3_isName 37 = .ok (.lload_n 1, 1) := by decide +kernel
theorem dX3_isName_38 : decode cX3_isName 38 = .ok (.ldc2_w 130, 3) := by decide +kernel
theorem dX3_isName_4 : decode cX3_isName 4 = .ok (.getfield 74, 3) := by decide +kernel
theorem dX3_isName_41 : decode cX3_isName 41 = .ok (.lcmp, 1) := by decide +kernel
theorem dX3_isName_42 : decode cX3_isName 42 = .ok (.ifCond .eq 31, 3) := by decide +kernel
theorem dX3_isName_45 : decode cX3_isName 45 = .ok (.lload_n 1, 1) := by decide +kernel
theorem dX3_isName_46 : decode cX3_isName 46 = .ok (.ldc2_w 132, 3) := by decide +kernel
theorem dX3_isName_49 : decode cX3_isName 49 = .ok (.lcmp, 1) := by decide +kernel
theorem dX3_isName_50 : decode cX3_isName 50 = .ok (.ifCond .eq 23, 3) := by decide +kernel
theorem dX3_isName_53 : decode cX3_isName 53 = .ok (.lload_n 1, 1) := by decide +kernel
theorem dX3_isName_54 : decode cX3_isName 54 = .ok (.ldc2_w 191, 3) := by decide +kernel
theorem dX3_isName_57 : decode cX3_isName 57 = .ok (.lcmp, 1) := by decide +kernel
theorem dX3_isName_58 : decode cX3_isName 58 = .ok (.ifCond .eq 15, 3) := by decide +kernel
theorem dX3_isName_61 : decode cX3_isName 61 = .ok (.lload_n 1, 1) := by decide +kernel
theorem dX3_isName_62 : decode cX3_isName 62 = .ok (.ldc2_w 193, 3) := by decide +kernel
theorem dX3_isName_65 : decode cX3_isName 65 = .ok (.lcmp, 1) := by decide +kernel
theorem dX3_isName_66 : decode cX3_isName 66 = .ok (.ifCond .eq 7, 3) := by decide +kernel
theorem dX3_isName_69 : decode cX3_isName 69 = .ok (.iconst 1, 1) := by decide +kernel
theorem dX3_isName_7 : decode cX3_isName 7 = .ok (.iconst 2, 1) := by decide +kernel
theorem dX3_isName_70 : decode cX3_isName 70 = .ok (.goto 4, 3) := by decide +kernel
theorem dX3_isName_73 : decode cX3_isName 73 = .ok (.iconst 0, 1) := by decide +kernel
theorem dX3_isName_74 : decode cX3_isName 74 = .ok (.ireturn, 1) := by decide +kernel
theorem dX3_isName_8 : decode cX3_isName 8 = .ok (.if_icmp .ne 11, 3) := by decide +kernel
theorem dX3_isWord_0 : decode cX3_isWord 0 = .ok (.aload_n 0, 1) := by decide +kernel
theorem dX3_isWord_1 : decode cX3_isWord 1 = .ok (.getfield 18, 3) := by decide +kernel
theorem dX3_isWord_11 : decode cX3_isWord 11 = .ok (.aload_n 0, 1) := by decide +kernel
theorem dX3_isWord_12 : decode cX3_isWord 12 = .ok (.getfield 18, 3) := by decide +kernel
theorem dX3_isWord_15 : decode cX3_isWord 15 = .ok (.getfield 137, 3) := by decide +kernel
theorem dX3_isWord_18 : decode cX3_isWord 18 = .ok (.lload_n 1, 1) := by decide +kernel
theorem dX3_isWord_19 : decode cX3_isWord 19 = .ok (.lcmp, 1) := by decide +kernel
theorem dX3_isWord_20 : decode cX3_isWord 20 = .ok (.ifCond .ne 7, 3) := by decide +kernel
theorem dX3_isWord_23 : decode cX3_isWord 23 = .ok (.iconst 1, 1) := by decide +kernel
theorem dX3_isWord_24 : decode cX3_isWord 24 = .ok (.goto 4, 3) := by decide +kernel
theorem dX3_isWord_27 : decode cX3_isWord 27 = .ok (.iconst 0, 1) := by decide +kernel
theorem dX3_isWord_28 : decode cX3_isWord 28 = .ok (.ireturn, 1) := by decide +kernel
theorem dX3_isWord_4 : decode cX3_isWord 4 = .ok (.getfield 74, 3) := by decide +kernel
theorem dX3_isWord_7 : decode cX3_isWord 7 = .ok (.iconst 2, 1) := by decide +kernel
theorem dX3_isWord_8 : decode cX3_isWord 8 = .ok (.if_icmp .ne 19, 3) := by decide +kernel
theorem dX3_linkUses_0 : decode cX3_linkUses 0 = .ok (.iconst (-1), 1) := by decide +kernel
theorem dX3_linkUses_1 : decode cX3_linkUses 1 = .ok (.istore_n 1, 1) := by decide +kernel
theorem dX3_linkUses_102 : decode cX3_linkUses 102 = .ok (.goto 32, 3) := by decide +kernel
theorem dX3_linkUses_105 : decode cX3_linkUses 105 = .ok (.aload_n 0, 1) := by decide +kernel
theorem dX3_linkUses_106 : decode cX3_linkUses 106 = .ok (.getfield 36, 3) := by decide +kernel
theorem dX3_linkUses_109 : decode cX3_linkUses 109 = .ok (.aload_n 0, 1) := by decide +kernel
theorem dX3_linkUses_110 : decode cX3_linkUses 110 = .ok (.getfield 30, 3) := by decide +kernel
theorem dX3_linkUses_113 : decode cX3_linkUses 113 = .ok (.iload_n 2, 1) := by decide +kernel
theorem dX3_linkUses_114 : decode cX3_linkUses 114 = .ok (.iaload, 1) := by decide +kernel
theorem dX3_linkUses_115 : decode cX3_linkUses 115 = .ok (.bipush (-3), 2) := by decide +kernel
theorem dX3_linkUses_117 : decode cX3_linkUses 117 = .ok (.if_icmp .ne 7, 3) := by decide +kernel
theorem dX3_linkUses_12 : decode cX3_linkUses 12 = .ok (.aload_n 0, 1) := by decide +kernel
theorem dX3_linkUses_120 : decode cX3_linkUses 120 = .ok (.iload_n 1, 1) := by decide +kernel
theorem dX3_linkUses_121 : decode cX3_linkUses 121 = .ok (.goto 9, 3) := by decide +kernel
theorem dX3_linkUses_124 : decode cX3_linkUses 124 = .ok (.aload_n 0, 1) := by decide +kernel
theorem dX3_linkUses_125 : decode cX3_linkUses 125 = .ok (.getfield 30, 3) := by decide +kernel
theorem dX3_linkUses_128 : decode cX3_linkUses 128 = .ok (.iload_n 2, 1) := by decide +kernel
theorem dX3_linkUses_129 : decode cX3_linkUses 129 = .ok (.iaload, 1) := by decide +kernel
theorem dX3_linkUses_13 : decode cX3_linkUses 13 = .ok (.getfield 36, 3) := by decide +kernel
theorem dX3_linkUses_130 : decode cX3_linkUses 130 = .ok (.iload_n 3, 1) := by decide +kernel
theorem dX3_linkUses_131 : decode cX3_linkUses 131 = .ok (.invokevirtual 226, 3) := by decide +kernel
theorem dX3_linkUses_134 : decode cX3_linkUses 134 = .ok (.iinc 2 1, 3) := by decide +kernel
theorem dX3_linkUses_137 : decode cX3_linkUses 137 = .ok (.goto (-133), 3) := by decide +kernel
theorem dX3_linkUses_140 : decode cX3_linkUses 140 = .ok (.iconst 1, 1) := by decide +kernel
theorem dX3_linkUses_141 : decode cX3_linkUses 141 = .ok (.ireturn, 1) := by decide +kernel
theorem dX3_linkUses_16 : decode cX3_linkUses 16 = .ok (.aload_n 0, 1) := by decide +kernel
theorem dX3_linkUses_17 : decode cX3_linkUses 17 = .ok (.getfield 22, 3) := by decide +kernel
theorem dX3_linkUses_2 : decode cX3_linkUses 2 = .ok (.iconst 0, 1) := by decide +kernel
theorem dX3_linkUses_20 : decode cX3_linkUses 20 = .ok (.iload_n 2, 1) := by decide +kernel
theorem dX3_linkUses_21 : decode cX3_linkUses 21 = .ok (.laload, 1) := by decide +kernel
theorem dX3_linkUses_22 : decode cX3_linkUses 22 = .ok (.invokevirtual 164, 3) := by decide +kernel
theorem dX3_linkUses_25 : decode cX3_linkUses 25 = .ok (.istore_n 3, 1) := by decide +kernel
theorem dX3_linkUses_26 : decode cX3_linkUses 26 = .ok (.aload_n 0, 1) := by decide +kernel
theorem dX3_linkUses_27 : decode cX3_linkUses 27 = .ok (.getfield 30, 3) := by decide +kernel
theorem dX3_linkUses_3 : decode cX3_linkUses 3 = .ok (.istore_n 2, 1) := by decide +kernel
theorem dX3_linkUses_30 : decode cX3_linkUses 30 = .ok (.iload_n 2, 1) := by decide +kernel
theorem dX3_linkUses_31 : decode cX3_linkUses 31 = .ok (.iaload, 1) := by decide +kernel
theorem dX3_linkUses_32 : decode cX3_linkUses 32 = .ok (.invokestatic 172, 3) := by decide +kernel
theorem dX3_linkUses_35 : decode cX3_linkUses 35 = .ok (.istore 4, 2) := by decide +kernel
theorem dX3_linkUses_37 : decode cX3_linkUses 37 = .ok (.iload_n 3, 1) := by decide +kernel
theorem dX3_linkUses_38 : decode cX3_linkUses 38 = .ok (.iconst (-1), 1) := by decide +kernel
theorem dX3_linkUses_39 : decode cX3_linkUses 39 = .ok (.if_icmp .eq 20, 3) := by decide +kernel
theorem dX3_linkUses_4 : decode cX3_linkUses 4 = .ok (.iload_n 2, 1) := by decide +kernel
theorem dX3_linkUses_42 : decode cX3_linkUses 42 = .ok (.iload 4, 2) := by decide +kernel
theorem dX3_linkUses_44 : decode cX3_linkUses 44 = .ok (.ifCond .eq 27, 3) := by decide +kernel
theorem dX3_linkUses_47 : decode cX3_linkUses 47 = .ok (.aload_n 0, 1) := by decide +kernel
theorem dX3_linkUses_48 : decode cX3_linkUses 48 = .ok (.getfield 36, 3) := by decide +kernel
theorem dX3_linkUses_5 : decode cX3_linkUses 5 = .ok (.aload_n 0, 1) := by decide +kernel
theorem dX3_linkUses_51 : decode cX3_linkUses 51 = .ok (.iload_n 3, 1) := by decide +kernel
theorem dX3_linkUses_52 : decode cX3_linkUses 52 = .ok (.iconst 1, 1) := by decide +kernel
theorem dX3_linkUses_53 : decode cX3_linkUses 53 = .ok (.invokevirtual 219, 3) := by decide +kernel
theorem dX3_linkUses_56 : decode cX3_linkUses 56 = .ok (.ifCond .ne 15, 3) := by decide +kernel
theorem dX3_linkUses_59 : decode cX3_linkUses 59 = .ok (.aload_n 0, 1) := by decide +kernel
theorem dX3_linkUses_6 : decode cX3_linkUses 6 = .ok (.getfield 48, 3) := by decide +kernel
theorem dX3_linkUses_60 : decode cX3_linkUses 60 = .ok (.iconst 4, 1) := by decide +kernel
theorem dX3_linkUses_61 : decode cX3_linkUses 61 = .ok (.aload_n 0, 1) := by decide +kernel
theorem dX3_linkUses_62 : decode cX3_linkUses 62 = .ok (.getfield 26, 3) := by decide +kernel
theorem dX3_linkUses_65 : decode cX3_linkUses 65 = .ok (.iload_n 2, 1) := by decide +kernel
theorem dX3_linkUses_66 : decode cX3_linkUses 66 = .ok (.iaload, 1) := by decide +kernel
theorem dX3_linkUses_67 : decode cX3_linkUses 67 = .ok (.invokevirtual 117, 3) := by decide +kernel
theorem dX3_linkUses_70 : decode cX3_linkUses 70 = .ok (.ireturn, 1) := by decide +kernel
theorem dX3_linkUses_71 : decode cX3_linkUses 71 = .ok (.iload 4, 2) := by decide +kernel
theorem dX3_linkUses_73 : decode cX3_linkUses 73 = .ok (.ifCond .eq 32, 3) := by decide +kernel
theorem dX3_linkUses_76 : decode cX3_linkUses 76 = .ok (.iload_n 3, 1) := by decide +kernel
theorem dX3_linkUses_77 : decode cX3_linkUses 77 = .ok (.istore_n 1, 1) := by decide +kernel
theorem dX3_linkUses_78 : decode cX3_linkUses 78 = .ok (.aload_n 0, 1) := by decide +kernel
theorem dX3_linkUses_79 : decode cX3_linkUses 79 = .ok (.getfield 36, 3) := by decide +kernel
theorem dX3_linkUses_82 : decode cX3_linkUses 82 = .ok (.iload_n 1, 1) := by decide +kernel
theorem dX3_linkUses_83 : decode cX3_linkUses 83 = .ok (.aload_n 0, 1) := by decide +kernel
theorem dX3_linkUses_84 : decode cX3_linkUses 84 = .ok (.getfield 30, 3) := by decide +kernel
theorem dX3_linkUses_87 : decode cX3_linkUses 87 = .ok (.iload_n 2, 1) := by decide +kernel
theorem dX3_linkUses_88 : decode cX3_linkUses 88 = .ok (.iaload, 1) := by decide +kernel
theorem dX3_linkUses_89 : decode cX3_linkUses 89 = .ok (.bipush (-2), 2) := by decide +kernel
theorem dX3_linkUses_9 : decode cX3_linkUses 9 = .ok (.if_icmp .ge 131, 3) := by decide +kernel
theorem dX3_linkUses_91 : decode cX3_linkUses 91 = .ok (.if_icmp .ne 7, 3) := by decide +kernel
theorem dX3_linkUses_94 : decode cX3_linkUses 94 = .ok (.iconst 1, 1) := by decide +kernel
theorem dX3_linkUses_95 : decode cX3_linkUses 95 = .ok (.goto 4, 3) := by decide +kernel
theorem dX3_linkUses_98 : decode cX3_linkUses 98 = .ok (.iconst 0, 1) := by decide +kernel
theorem dX3_linkUses_99 : decode cX3_linkUses 99 = .ok (.invokevirtual 222, 3) := by decide +kernel
theorem dX3_readInto_0 : decode cX3_readInto 0 = .ok (.aload_n 0, 1) := by decide +kernel
theorem dX3_readInto_1 : decode cX3_readInto 1 = .ok (.aload_n 1, 1) := by decide +kernel
theorem dX3_readInto_12 : decode cX3_readInto 12 = .ok (.aload_n 0, 1) := by decide +kernel
theorem dX3_readInto_13 : decode cX3_readInto 13 = .ok (.iconst 0, 1) := by decide +kernel
theorem dX3_readInto_14 : decode cX3_readInto 14 = .ok (.putfield 45, 3) := by decide +kernel
theorem dX3_readInto_17 : decode cX3_readInto 17 = .ok (.aload_n 0, 1) := by decide +kernel
theorem dX3_readInto_18 : decode cX3_readInto 18 = .ok (.iconst (-1), 1) := by decide +kernel
theorem dX3_readInto_19 : decode cX3_readInto 19 = .ok (.putfield 9, 3) := by decide +kernel
theorem dX3_readInto_2 : decode cX3_readInto 2 = .ok (.putfield 36, 3) := by decide +kernel
theorem dX3_readInto_22 : decode cX3_readInto 22 = .ok (.aload_n 0, 1) := by decide +kernel
theorem dX3_readInto_23 : decode cX3_readInto 23 = .ok (.iconst 0, 1) := by decide +kernel
theorem dX3_readInto_24 : decode cX3_readInto 24 = .ok (.putfield 48, 3) := by decide +kernel
theorem dX3_readInto_27 : decode cX3_readInto 27 = .ok (.aload_n 0, 1) := by decide +kernel
theorem dX3_readInto_28 : decode cX3_readInto 28 = .ok (.getfield 18, 3) := by decide +kernel
theorem dX3_readInto_31 : decode cX3_readInto 31 = .ok (.aload_n 2, 1) := by decide +kernel
theorem dX3_readInto_32 : decode cX3_readInto 32 = .ok (.iload_n 3, 1) := by decide +kernel
theorem dX3_readInto_33 : decode cX3_readInto 33 = .ok (.invokevirtual 51, 3) := by decide +kernel
theorem dX3_readInto_36 : decode cX3_readInto 36 = .ok (.aload_n 0, 1) := by decide +kernel
theorem dX3_readInto_37 : decode cX3_readInto 37 = .ok (.invokevirtual 55, 3) := by decide +kernel
theorem dX3_readInto_40 : decode cX3_readInto 40 = .ok (.ifCond .eq 17, 3) := by decide +kernel
theorem dX3_readInto_43 : decode cX3_readInto 43 = .ok (.aload_n 0, 1) := by decide +kernel
theorem dX3_readInto_44 : decode cX3_readInto 44 = .ok (.invokevirtual 59, 3) := by decide +kernel
theorem dX3_readInto_47 : decode cX3_readInto 47 = .ok (.ifCond .eq 10, 3) := by decide +kernel
theorem dX3_readInto_5 : decode cX3_readInto 5 = .ok (.aload_n 0, 1) := by decide +kernel
theorem dX3_readInto_50 : decode cX3_readInto 50 = .ok (.aload_n 0, 1) := by decide +kernel
theorem dX3_readInto_51 : decode cX3_readInto 51 = .ok (.invokevirtual 62, 3) := by decide +kernel
theorem dX3_readInto_54 : decode cX3_readInto 54 = .ok (.ifCond .ne 5, 3) := by decide +kernel
theorem dX3_readInto_57 : decode cX3_readInto 57 = .ok (.iconst 0, 1) := by decide +kernel
theorem dX3_readInto_58 : decode cX3_readInto 58 = .ok (.ireturn, 1) := by decide +kernel
theorem dX3_readInto_59 : decode cX3_readInto 59 = .ok (.aload_n 0, 1) := by decide +kernel
theorem dX3_readInto_6 : decode cX3_readInto 6 = .ok (.getfield 36, 3) := by decide +kernel
theorem dX3_readInto_60 : decode cX3_readInto 60 = .ok (.getfield 36, 3) := by decide +kernel
theorem dX3_readInto_63 : decode cX3_readInto 63 = .ok (.invokevirtual 65, 3) := by decide +kernel
theorem dX3_readInto_66 : decode cX3_readInto 66 = .ok (.iconst 1, 1) := by decide +kernel
theorem dX3_readInto_67 : decode cX3_readInto 67 = .ok (.ireturn, 1) := by decide +kernel
theorem dX3_readInto_9 : decode cX3_readInto 9 = .ok (.invokevirtual 40, 3) := by decide +kernel
theorem dX3_refuse_0 : decode cX3_refuse 0 = .ok (.aload_n 0, 1) := by decide +kernel
theorem dX3_refuse_1 : decode cX3_refuse 1 = .ok (.aload_n 0, 1) := by decide +kernel
theorem dX3_refuse_11 : decode cX3_refuse 11 = .ok (.iconst 1, 1) := by decide +kernel
theorem dX3_refuse_12 : decode cX3_refuse 12 = .ok (.goto 4, 3) := by decide +kernel
theorem dX3_refuse_15 : decode cX3_refuse 15 = .ok (.iconst 2, 1) := by decide +kernel
theorem dX3_refuse_16 : decode cX3_refuse 16 = .ok (.aload_n 0, 1) := by decide +kernel
theorem dX3_refuse_17 : decode cX3_refuse 17 = .ok (.getfield 18, 3) := by decide +kernel
theorem dX3_refuse_2 : decode cX3_refuse 2 = .ok (.getfield 18, 3) := by decide +kernel
theorem dX3_refuse_20 : decode cX3_refuse 20 = .ok (.getfield 114, 3) := by decide +kernel
theorem dX3_refuse_23 : decode cX3_refuse 23 = .ok (.invokevirtual 117, 3) := by decide +kernel
theorem dX3_refuse_26 : decode cX3_refuse 26 = .ok (.ireturn, 1) := by decide +kernel
theorem dX3_refuse_5 : decode cX3_refuse 5 = .ok (.getfield 74, 3) := by decide +kernel
theorem dX3_refuse_8 : decode cX3_refuse 8 = .ok (.ifCond .ne 7, 3) := by decide +kernel
theorem dX3_step_0 : decode cX3_step 0 = .ok (.aload_n 0, 1) := by decide +kernel
theorem dX3_step_1 : decode cX3_step 1 = .ok (.getfield 68, 3) := by decide +kernel
theorem dX3_step_100 : decode cX3_step 100 = .ok (.aload_n 0, 1) := by decide +kernel
theorem dX3_step_101 : decode cX3_step 101 = .ok (.invokevirtual 99, 3) := by decide +kernel
theorem dX3_step_104 : decode cX3_step 104 = .ok (.ireturn, 1) := by decide +kernel
theorem dX3_step_105 : decode cX3_step 105 = .ok (.aload_n 0, 1) := by decide +kernel
theorem dX3_step_106 : decode cX3_step 106 = .ok (.invokevirtual 102, 3) := by decide +kernel
theorem dX3_step_109 : decode cX3_step 109 = .ok (.ireturn, 1) := by decide +kernel
theorem dX3_step_110 : decode cX3_step 110 = .ok (.aload_n 0, 1) := by decide +kernel
theorem dX3_step_111 : decode cX3_step 111 = .ok (.getfield 18, 3) := by decide +kernel
theorem dX3_step_114 : decode cX3_step 114 = .ok (.getfield 74, 3) := by decide +kernel
theorem dX3_step_117 : decode cX3_step 117 = .ok (.bipush 40, 2) := by decide +kernel
theorem dX3_step_119 : decode cX3_step 119 = .ok (.if_icmp .ne 12, 3) := by decide +kernel
theorem dX3_step_122 : decode cX3_step 122 = .ok (.aload_n 0, 1) := by decide +kernel
theorem dX3_step_123 : decode cX3_step 123 = .ok (.bipush 7, 2) := by decide +kernel
theorem dX3_step_125 : decode cX3_step 125 = .ok (.invokevirtual 89, 3) := by decide +kernel
theorem dX3_step_128 : decode cX3_step 128 = .ok (.goto 7, 3) := by decide +kernel
theorem dX3_step_131 : decode cX3_step 131 = .ok (.aload_n 0, 1) := by decide +kernel
theorem dX3_step_132 : decode cX3_step 132 = .ok (.invokevirtual 80, 3) := by decide +kernel
theorem dX3_step_135 : decode cX3_step 135 = .ok (.ireturn, 1) := by decide +kernel
theorem dX3_step_136 : decode cX3_step 136 = .ok (.aload_n 0, 1) := by decide +kernel
theorem dX3_step_137 : decode cX3_step 137 = .ok (.invokevirtual 105, 3) := by decide +kernel
theorem dX3_step_140 : decode cX3_step 140 = .ok (.ireturn, 1) := by decide +kernel
theorem dX3_step_141 : decode cX3_step 141 = .ok (.aload_n 0, 1) := by decide +kernel
theorem dX3_step_142 : decode cX3_step 142 = .ok (.invokevirtual 108, 3) := by decide +kernel
theorem dX3_step_145 : decode cX3_step 145 = .ok (.ireturn, 1) := by decide +kernel
theorem dX3_step_146 : decode cX3_step 146 = .ok (.aload_n 0, 1) := by decide +kernel
theorem dX3_step_147 : decode cX3_step 147 = .ok (.getfield 18, 3) := by decide +kernel
theorem dX3_step_150 : decode cX3_step 150 = .ok (.getfield 74, 3) := by decide +kernel
theorem dX3_step_153 : decode cX3_step 153 = .ok (.iconst 3, 1) := by decide +kernel
theorem dX3_step_154 : decode cX3_step 154 = .ok (.if_icmp .ne 10, 3) := by decide +kernel
theorem dX3_step_157 : decode cX3_step 157 = .ok (.aload_n 0, 1) := by decide +kernel
theorem dX3_step_158 : decode cX3_step 158 = .ok (.invokevirtual 111, 3) := by decide +kernel
theorem dX3_step_161 : decode cX3_step 161 = .ok (.goto 7, 3) := by decide +kernel
theorem dX3_step_164 : decode cX3_step 164 = .ok (.aload_n 0, 1) := by decide +kernel
theorem dX3_step_165 : decode cX3_step 165 = .ok (.invokevirtual 93, 3) := by decide +kernel
theorem dX3_step_168 : decode cX3_step 168 = .ok (.ireturn, 1) := by decide +kernel
theorem dX3_step_169 : decode cX3_step 169 = .ok (.aload_n 0, 1) := by decide +kernel
theorem dX3_step_170 : decode cX3_step 170 = .ok (.invokevirtual 93, 3) := by decide +kernel
theorem dX3_step_173 : decode cX3_step 173 = .ok (.ireturn, 1) := by decide +kernel
theorem dX3_step_4 : decode cX3_step 4 = .ok (.tableswitch 165 0 9 #[56, 61, 66, 91, 96, 101, 106, 132, 137, 142], 56) := by decide +kernel
theorem dX3_step_60 : decode cX3_step 60 = .ok (.aload_n 0, 1) := by decide +kernel
theorem dX3_step_61 : decode cX3_step 61 = .ok (.invokevirtual 83, 3) := by decide +kernel
theorem dX3_step_64 : decode cX3_step 64 = .ok (.ireturn, 1) := by decide +kernel
theorem dX3_step_65 : decode cX3_step 65 = .ok (.aload_n 0, 1) := by decide +kernel
theorem dX3_step_66 : decode cX3_step 66 = .ok (.invokevirtual 86, 3) := by decide +kernel
theorem dX3_step_69 : decode cX3_step 69 = .ok (.ireturn, 1) := by decide +kernel
theorem dX3_step_70 : decode cX3_step 70 = .ok (.aload_n 0, 1) := by decide +kernel
theorem dX3_step_71 : decode cX3_step 71 = .ok (.getfield 18, 3) := by decide +kernel
theorem dX3_step_74 : decode cX3_step 74 = .ok (.getfield 74, 3) := by decide +kernel
theorem dX3_step_77 : decode cX3_step 77 = .ok (.bipush 44, 2) := by decide +kernel
theorem dX3_step_79 : decode cX3_step 79 = .ok (.if_icmp .ne 11, 3) := by decide +kernel
theorem dX3_step_82 : decode cX3_step 82 = .ok (.aload_n 0, 1) := by decide +kernel
theorem dX3_step_83 : decode cX3_step 83 = .ok (.iconst 1, 1) := by decide +kernel
theorem dX3_step_84 : decode cX3_step 84 = .ok (.invokevirtual 89, 3) := by decide +kernel
theorem dX3_step_87 : decode cX3_step 87 = .ok (.goto 7, 3) := by decide +kernel
theorem dX3_step_90 : decode cX3_step 90 = .ok (.aload_n 0, 1) := by decide +kernel
theorem dX3_step_91 : decode cX3_step 91 = .ok (.invokevirtual 93, 3) := by decide +kernel
theorem dX3_step_94 : decode cX3_step 94 = .ok (.ireturn, 1) := by decide +kernel
theorem dX3_step_95 : decode cX3_step 95 = .ok (.aload_n 0, 1) := by decide +kernel
theorem dX3_step_96 : decode cX3_step 96 = .ok (.invokevirtual 96, 3) := by decide +kernel
theorem dX3_step_99 : decode cX3_step 99 = .ok (.ireturn, 1) := by decide +kernel
theorem dX3_takeDelay_0 : decode cX3_takeDelay 0 = .ok (.aload_n 0, 1) := by decide +kernel
theorem dX3_takeDelay_1 : decode cX3_takeDelay 1 = .ok (.getfield 36, 3) := by decide +kernel
theorem dX3_takeDelay_11 : decode cX3_takeDelay 11 = .ok (.ifCond .eq 22, 3) := by decide +kernel
theorem dX3_takeDelay_14 : decode cX3_takeDelay 14 = .ok (.aload_n 0, 1) := by decide +kernel
theorem dX3_takeDelay_15 : decode cX3_takeDelay 15 = .ok (.getfield 36, 3) := by decide +kernel
theorem dX3_takeDelay_18 : decode cX3_takeDelay 18 = .ok (.getfield 210, 3) := by decide +kernel
theorem dX3_takeDelay_21 : decode cX3_takeDelay 21 = .ok (.aload_n 0, 1) := by decide +kernel
theorem dX3_takeDelay_22 : decode cX3_takeDelay 22 = .ok (.getfield 198, 3) := by decide +kernel
theorem dX3_takeDelay_25 : decode cX3_takeDelay 25 = .ok (.aload_n 0, 1) := by decide +kernel
theorem dX3_takeDelay_26 : decode cX3_takeDelay 26 = .ok (.getfield 18, 3) := by decide +kernel
theorem dX3_takeDelay_29 : decode cX3_takeDelay 29 = .ok (.getfield 213, 3) := by decide +kernel
theorem dX3_takeDelay_32 : decode cX3_takeDelay 32 = .ok (.iastore, 1) := by decide +kernel
theorem dX3_takeDelay_33 : decode cX3_takeDelay 33 = .ok (.aload_n 0, 1) := by decide +kernel
theorem dX3_takeDelay_34 : decode cX3_takeDelay 34 = .ok (.bipush 10, 2) := by decide +kernel
theorem dX3_takeDelay_36 : decode cX3_takeDelay 36 = .ok (.invokevirtual 89, 3) := by decide +kernel
theorem dX3_takeDelay_39 : decode cX3_takeDelay 39 = .ok (.ireturn, 1) := by decide +kernel
theorem dX3_takeDelay_4 : decode cX3_takeDelay 4 = .ok (.aload_n 0, 1) := by decide +kernel
theorem dX3_takeDelay_5 : decode cX3_takeDelay 5 = .ok (.getfield 198, 3) := by decide +kernel
theorem dX3_takeDelay_8 : decode cX3_takeDelay 8 = .ok (.invokevirtual 179, 3) := by decide +kernel
theorem dX3_takeDriver_0 : decode cX3_takeDriver 0 = .ok (.aload_n 0, 1) := by decide +kernel
theorem dX3_takeDriver_1 : decode cX3_takeDriver 1 = .ok (.ldc2_w 191, 3) := by decide +kernel
theorem dX3_takeDriver_10 : decode cX3_takeDriver 10 = .ok (.aload_n 0, 1) := by decide +kernel
theorem dX3_takeDriver_11 : decode cX3_takeDriver 11 = .ok (.ldc2_w 193, 3) := by decide +kernel
theorem dX3_takeDriver_14 : decode cX3_takeDriver 14 = .ok (.invokevirtual 123, 3) := by decide +kernel
theorem dX3_takeDriver_17 : decode cX3_takeDriver 17 = .ok (.ifCond .ne 8, 3) := by decide +kernel
theorem dX3_takeDriver_20 : decode cX3_takeDriver 20 = .ok (.aload_n 0, 1) := by decide +kernel
theorem dX3_takeDriver_21 : decode cX3_takeDriver 21 = .ok (.invokevirtual 80, 3) := by decide +kernel
theorem dX3_takeDriver_24 : decode cX3_takeDriver 24 = .ok (.ireturn, 1) := by decide +kernel
theorem dX3_takeDriver_25 : decode cX3_takeDriver 25 = .ok (.aload_n 0, 1) := by decide +kernel
theorem dX3_takeDriver_26 : decode cX3_takeDriver 26 = .ok (.aload_n 0, 1) := by decide +kernel
theorem dX3_takeDriver_27 : decode cX3_takeDriver 27 = .ok (.getfield 141, 3) := by decide +kernel
theorem dX3_takeDriver_30 : decode cX3_takeDriver 30 = .ok (.aload_n 0, 1) := by decide +kernel
theorem dX3_takeDriver_31 : decode cX3_takeDriver 31 = .ok (.getfield 144, 3) := by decide +kernel
theorem dX3_takeDriver_34 : decode cX3_takeDriver 34 = .ok (.aload_n 0, 1) := by decide +kernel
theorem dX3_takeDriver_35 : decode cX3_takeDriver 35 = .ok (.ldc2_w 193, 3) := by decide +kernel
theorem dX3_takeDriver_38 : decode cX3_takeDriver 38 = .ok (.invokevirtual 123, 3) := by decide +kernel
theorem dX3_takeDriver_4 : decode cX3_takeDriver 4 = .ok (.invokevirtual 123, 3) := by decide +kernel
theorem dX3_takeDriver_41 : decode cX3_takeDriver 41 = .ok (.ifCond .eq 8, 3) := by decide +kernel
theorem dX3_takeDriver_44 : decode cX3_takeDriver 44 = .ok (.bipush (-2), 2) := by decide +kernel
theorem dX3_takeDriver_46 : decode cX3_takeDriver 46 = .ok (.goto 4, 3) := by decide +kernel
theorem dX3_takeDriver_49 : decode cX3_takeDriver 49 = .ok (.iconst (-1), 1) := by decide +kernel
theorem dX3_takeDriver_50 : decode cX3_takeDriver 50 = .ok (.invokevirtual 195, 3) := by decide +kernel
theorem dX3_takeDriver_53 : decode cX3_takeDriver 53 = .ok (.aload_n 0, 1) := by decide +kernel
theorem dX3_takeDriver_54 : decode cX3_takeDriver 54 = .ok (.bipush (-3), 2) := by decide +kernel
theorem dX3_takeDriver_56 : decode cX3_takeDriver 56 = .ok (.iconst 2, 1) := by decide +kernel
theorem dX3_takeDriver_57 : decode cX3_takeDriver 57 = .ok (.iconst 2, 1) := by decide +kernel
theorem dX3_takeDriver_58 : decode cX3_takeDriver 58 = .ok (.invokevirtual 157, 3) := by decide +kernel
theorem dX3_takeDriver_61 : decode cX3_takeDriver 61 = .ok (.ireturn, 1) := by decide +kernel
theorem dX3_takeDriver_7 : decode cX3_takeDriver 7 = .ok (.ifCond .ne 18, 3) := by decide +kernel
theorem dX3_takeGate_0 : decode cX3_takeGate 0 = .ok (.aload_n 0, 1) := by decide +kernel
theorem dX3_takeGate_1 : decode cX3_takeGate 1 = .ok (.getfield 36, 3) := by decide +kernel
theorem dX3_takeGate_10 : decode cX3_takeGate 10 = .ok (.aload_n 0, 1) := by decide +kernel
theorem dX3_takeGate_11 : decode cX3_takeGate 11 = .ok (.invokevirtual 175, 3) := by decide +kernel
theorem dX3_takeGate_14 : decode cX3_takeGate 14 = .ok (.istore_n 2, 1) := by decide +kernel
theorem dX3_takeGate_15 : decode cX3_takeGate 15 = .ok (.iload_n 2, 1) := by decide +kernel
theorem dX3_takeGate_16 : decode cX3_takeGate 16 = .ok (.iconst (-1), 1) := by decide +kernel
theorem dX3_takeGate_17 : decode cX3_takeGate 17 = .ok (.if_icmp .eq 14, 3) := by decide +kernel
theorem dX3_takeGate_20 : decode cX3_takeGate 20 = .ok (.aload_n 0, 1) := by decide +kernel
theorem dX3_takeGate_21 : decode cX3_takeGate 21 = .ok (.getfield 36, 3) := by decide +kernel
theorem dX3_takeGate_24 : decode cX3_takeGate 24 = .ok (.iload_n 1, 1) := by decide +kernel
theorem dX3_takeGate_25 : decode cX3_takeGate 25 = .ok (.invokevirtual 179, 3) := by decide +kernel
theorem dX3_takeGate_28 : decode cX3_takeGate 28 = .ok (.ifCond .ne 8, 3) := by decide +kernel
theorem dX3_takeGate_31 : decode cX3_takeGate 31 = .ok (.aload_n 0, 1) := by decide +kernel
theorem dX3_takeGate_32 : decode cX3_takeGate 32 = .ok (.invokevirtual 80, 3) := by decide +kernel
theorem dX3_takeGate_35 : decode cX3_takeGate 35 = .ok (.ireturn, 1) := by decide +kernel
theorem dX3_takeGate_36 : decode cX3_takeGate 36 = .ok (.aload_n 0, 1) := by decide +kernel
theorem dX3_takeGate_37 : decode cX3_takeGate 37 = .ok (.getfield 36, 3) := by decide +kernel
theorem dX3_takeGate_4 : decode cX3_takeGate 4 = .ok (.getfield 154, 3) := by decide +kernel
theorem dX3_takeGate_40 : decode cX3_takeGate 40 = .ok (.getfield 182, 3) := by decide +kernel
theorem dX3_takeGate_43 : decode cX3_takeGate 43 = .ok (.iload_n 1, 1) := by decide +kernel
theorem dX3_takeGate_44 : decode cX3_takeGate 44 = .ok (.iload_n 2, 1) := by decide +kernel
theorem dX3_takeGate_45 : decode cX3_takeGate 45 = .ok (.iastore, 1) := by decide +kernel
theorem dX3_takeGate_46 : decode cX3_takeGate 46 = .ok (.aload_n 0, 1) := by decide +kernel
theorem dX3_takeGate_47 : decode cX3_takeGate 47 = .ok (.iload_n 1, 1) := by decide +kernel
theorem dX3_takeGate_48 : decode cX3_takeGate 48 = .ok (.getstatic 185, 3) := by decide +kernel
theorem dX3_takeGate_51 : decode cX3_takeGate 51 = .ok (.iload_n 2, 1) := by decide +kernel
theorem dX3_takeGate_52 : decode cX3_takeGate 52 = .ok (.iaload, 1) := by decide +kernel
theorem dX3_takeGate_53 : decode cX3_takeGate 53 = .ok (.getstatic 188, 3) := by decide +kernel
theorem dX3_takeGate_56 : decode cX3_takeGate 56 = .ok (.iload_n 2, 1) := by decide +kernel
theorem dX3_takeGate_57 : decode cX3_takeGate 57 = .ok (.iaload, 1) := by decide +kernel
theorem dX3_takeGate_58 : decode cX3_takeGate 58 = .ok (.invokevirtual 157, 3) := by decide +kernel
theorem dX3_takeGate_61 : decode cX3_takeGate 61 = .ok (.ireturn, 1) := by decide +kernel
theorem dX3_takeGate_7 : decode cX3_takeGate 7 = .ok (.iconst 1, 1) := by decide +kernel
theorem dX3_takeGate_8 : decode cX3_takeGate 8 = .ok (.isub, 1) := by decide +kernel
theorem dX3_takeGate_9 : decode cX3_takeGate 9 = .ok (.istore_n 1, 1) := by decide +kernel
theorem dX3_takePart_0 : decode cX3_takePart 0 = .ok (.aload_n 0, 1) := by decide +kernel
theorem dX3_takePart_1 : decode cX3_takePart 1 = .ok (.invokevirtual 134, 3) := by decide +kernel
theorem dX3_takePart_11 : decode cX3_takePart 11 = .ok (.aload_n 0, 1) := by decide +kernel
theorem dX3_takePart_12 : decode cX3_takePart 12 = .ok (.getfield 204, 3) := by decide +kernel
theorem dX3_takePart_15 : decode cX3_takePart 15 = .ok (.if_icmp .lt 8, 3) := by decide +kernel
theorem dX3_takePart_18 : decode cX3_takePart 18 = .ok (.aload_n 0, 1) := by decide +kernel
theorem dX3_takePart_19 : decode cX3_takePart 19 = .ok (.invokevirtual 80, 3) := by decide +kernel
theorem dX3_takePart_22 : decode cX3_takePart 22 = .ok (.ireturn, 1) := by decide +kernel
theorem dX3_takePart_23 : decode cX3_takePart 23 = .ok (.aload_n 0, 1) := by decide +kernel
theorem dX3_takePart_24 : decode cX3_takePart 24 = .ok (.aload_n 0, 1) := by decide +kernel
theorem dX3_takePart_25 : decode cX3_takePart 25 = .ok (.getfield 18, 3) := by decide +kernel
theorem dX3_takePart_28 : decode cX3_takePart 28 = .ok (.getfield 137, 3) := by decide +kernel
theorem dX3_takePart_31 : decode cX3_takePart 31 = .ok (.aload_n 0, 1) := by decide +kernel
theorem dX3_takePart_32 : decode cX3_takePart 32 = .ok (.getfield 18, 3) := by decide +kernel
theorem dX3_takePart_35 : decode cX3_takePart 35 = .ok (.getfield 114, 3) := by decide +kernel
theorem dX3_takePart_38 : decode cX3_takePart 38 = .ok (.aload_n 0, 1) := by decide +kernel
theorem dX3_takePart_39 : decode cX3_takePart 39 = .ok (.getfield 198, 3) := by decide +kernel
theorem dX3_takePart_4 : decode cX3_takePart 4 = .ok (.ifCond .eq 14, 3) := by decide +kernel
theorem dX3_takePart_42 : decode cX3_takePart 42 = .ok (.invokevirtual 195, 3) := by decide +kernel
theorem dX3_takePart_45 : decode cX3_takePart 45 = .ok (.aload_n 0, 1) := by decide +kernel
theorem dX3_takePart_46 : decode cX3_takePart 46 = .ok (.dup, 1) := by decide +kernel
theorem dX3_takePart_47 : decode cX3_takePart 47 = .ok (.getfield 207, 3) := by decide +kernel
theorem dX3_takePart_50 : decode cX3_takePart 50 = .ok (.iconst 1, 1) := by decide +kernel
theorem dX3_takePart_51 : decode cX3_takePart 51 = .ok (.iadd, 1) := by decide +kernel
theorem dX3_takePart_52 : decode cX3_takePart 52 = .ok (.putfield 207, 3) := by decide +kernel
theorem dX3_takePart_55 : decode cX3_takePart 55 = .ok (.aload_n 0, 1) := by decide +kernel
theorem dX3_takePart_56 : decode cX3_takePart 56 = .ok (.bipush 8, 2) := by decide +kernel
theorem dX3_takePart_58 : decode cX3_takePart 58 = .ok (.invokevirtual 89, 3) := by decide +kernel
theorem dX3_takePart_61 : decode cX3_takePart 61 = .ok (.ireturn, 1) := by decide +kernel
theorem dX3_takePart_7 : decode cX3_takePart 7 = .ok (.aload_n 0, 1) := by decide +kernel
theorem dX3_takePart_8 : decode cX3_takePart 8 = .ok (.getfield 207, 3) := by decide +kernel
theorem dX3_takeTokens_0 : decode cX3_takeTokens 0 = .ok (.aload_n 0, 1) := by decide +kernel
theorem dX3_takeTokens_1 : decode cX3_takeTokens 1 = .ok (.iconst 0, 1) := by decide +kernel
theorem dX3_takeTokens_12 : decode cX3_takeTokens 12 = .ok (.iconst 0, 1) := by decide +kernel
theorem dX3_takeTokens_13 : decode cX3_takeTokens 13 = .ok (.istore_n 1, 1) := by decide +kernel
theorem dX3_takeTokens_14 : decode cX3_takeTokens 14 = .ok (.iload_n 1, 1) := by decide +kernel
theorem dX3_takeTokens_15 : decode cX3_takeTokens 15 = .ok (.sipush 2000, 3) := by decide +kernel
theorem dX3_takeTokens_18 : decode cX3_takeTokens 18 = .ok (.if_icmp .ge 36, 3) := by decide +kernel
theorem dX3_takeTokens_2 : decode cX3_takeTokens 2 = .ok (.putfield 68, 3) := by decide +kernel
theorem dX3_takeTokens_21 : decode cX3_takeTokens 21 = .ok (.aload_n 0, 1) := by decide +kernel
theorem dX3_takeTokens_22 : decode cX3_takeTokens 22 = .ok (.getfield 18, 3) := by decide +kernel
theorem dX3_takeTokens_25 : decode cX3_takeTokens 25 = .ok (.getfield 74, 3) := by decide +kernel
theorem dX3_takeTokens_28 : decode cX3_takeTokens 28 = .ok (.iconst 1, 1) := by decide +kernel
theorem dX3_takeTokens_29 : decode cX3_takeTokens 29 = .ok (.if_icmp .eq 25, 3) := by decide +kernel
theorem dX3_takeTokens_32 : decode cX3_takeTokens 32 = .ok (.aload_n 0, 1) := by decide +kernel
theorem dX3_takeTokens_33 : decode cX3_takeTokens 33 = .ok (.invokevirtual 77, 3) := by decide +kernel
theorem dX3_takeTokens_36 : decode cX3_takeTokens 36 = .ok (.ifCond .ne 5, 3) := by decide +kernel
theorem dX3_takeTokens_39 : decode cX3_takeTokens 39 = .ok (.iconst 0, 1) := by decide +kernel
theorem dX3_takeTokens_40 : decode cX3_takeTokens 40 = .ok (.ireturn, 1) := by decide +kernel
theorem dX3_takeTokens_41 : decode cX3_takeTokens 41 = .ok (.aload_n 0, 1) := by decide +kernel
theorem dX3_takeTokens_42 : decode cX3_takeTokens 42 = .ok (.getfield 18, 3) := by decide +kernel
theorem dX3_takeTokens_45 : decode cX3_takeTokens 45 = .ok (.invokevirtual 71, 3) := by decide +kernel
theorem dX3_takeTokens_48 : decode cX3_takeTokens 48 = .ok (.iinc 1 1, 3) := by decide +kernel
theorem dX3_takeTokens_5 : decode cX3_takeTokens 5 = .ok (.aload_n 0, 1) := by decide +kernel
theorem dX3_takeTokens_51 : decode cX3_takeTokens 51 = .ok (.goto (-37), 3) := by decide +kernel
theorem dX3_takeTokens_54 : decode cX3_takeTokens 54 = .ok (.aload_n 0, 1) := by decide +kernel
theorem dX3_takeTokens_55 : decode cX3_takeTokens 55 = .ok (.getfield 68, 3) := by decide +kernel
theorem dX3_takeTokens_58 : decode cX3_takeTokens 58 = .ok (.ifCond .eq 10, 3) := by decide +kernel
theorem dX3_takeTokens_6 : decode cX3_takeTokens 6 = .ok (.getfield 18, 3) := by decide +kernel
theorem dX3_takeTokens_61 : decode cX3_takeTokens 61 = .ok (.aload_n 0, 1) := by decide +kernel
theorem dX3_takeTokens_62 : decode cX3_takeTokens 62 = .ok (.invokevirtual 80, 3) := by decide +kernel
theorem dX3_takeTokens_65 : decode cX3_takeTokens 65 = .ok (.ifCond .eq 7, 3) := by decide +kernel
theorem dX3_takeTokens_68 : decode cX3_takeTokens 68 = .ok (.iconst 1, 1) := by decide +kernel
theorem dX3_takeTokens_69 : decode cX3_takeTokens 69 = .ok (.goto 4, 3) := by decide +kernel
theorem dX3_takeTokens_72 : decode cX3_takeTokens 72 = .ok (.iconst 0, 1) := by decide +kernel
theorem dX3_takeTokens_73 : decode cX3_takeTokens 73 = .ok (.ireturn, 1) := by decide +kernel
theorem dX3_takeTokens_9 : decode cX3_takeTokens 9 = .ok (.invokevirtual 71, 3) := by decide +kernel
theorem dX3_tellHere_0 : decode cX3_tellHere 0 = .ok (.aload_n 0, 1) := by decide +kernel
theorem dX3_tellHere_1 : decode cX3_tellHere 1 = .ok (.invokevirtual 134, 3) := by decide +kernel
theorem dX3_tellHere_11 : decode cX3_tellHere 11 = .ok (.ireturn, 1) := by decide +kernel
theorem dX3_tellHere_12 : decode cX3_tellHere 12 = .ok (.aload_n 0, 1) := by decide +kernel
theorem dX3_tellHere_13 : decode cX3_tellHere 13 = .ok (.aload_n 0, 1) := by decide +kernel
theorem dX3_tellHere_14 : decode cX3_tellHere 14 = .ok (.getfield 18, 3) := by decide +kernel
theorem dX3_tellHere_17 : decode cX3_tellHere 17 = .ok (.getfield 137, 3) := by decide +kernel
theorem dX3_tellHere_20 : decode cX3_tellHere 20 = .ok (.aload_n 0, 1) := by decide +kernel
theorem dX3_tellHere_21 : decode cX3_tellHere 21 = .ok (.getfield 18, 3) := by decide +kernel
theorem dX3_tellHere_24 : decode cX3_tellHere 24 = .ok (.getfield 114, 3) := by decide +kernel
theorem dX3_tellHere_27 : decode cX3_tellHere 27 = .ok (.aload_n 0, 1) := by decide +kernel
theorem dX3_tellHere_28 : decode cX3_tellHere 28 = .ok (.getfield 147, 3) := by decide +kernel
theorem dX3_tellHere_31 : decode cX3_tellHere 31 = .ok (.invokevirtual 150, 3) := by decide +kernel
theorem dX3_tellHere_34 : decode cX3_tellHere 34 = .ok (.ifCond .ne 5, 3) := by decide +kernel
theorem dX3_tellHere_37 : decode cX3_tellHere 37 = .ok (.iconst 0, 1) := by decide +kernel
theorem dX3_tellHere_38 : decode cX3_tellHere 38 = .ok (.ireturn, 1) := by decide +kernel
theorem dX3_tellHere_39 : decode cX3_tellHere 39 = .ok (.aload_n 0, 1) := by decide +kernel
theorem dX3_tellHere_4 : decode cX3_tellHere 4 = .ok (.ifCond .ne 8, 3) := by decide +kernel
theorem dX3_tellHere_40 : decode cX3_tellHere 40 = .ok (.getfield 147, 3) := by decide +kernel
theorem dX3_tellHere_43 : decode cX3_tellHere 43 = .ok (.iconst 3, 1) := by decide +kernel
theorem dX3_tellHere_44 : decode cX3_tellHere 44 = .ok (.if_icmp .ne 21, 3) := by decide +kernel
theorem dX3_tellHere_47 : decode cX3_tellHere 47 = .ok (.aload_n 0, 1) := by decide +kernel
theorem dX3_tellHere_48 : decode cX3_tellHere 48 = .ok (.aload_n 0, 1) := by decide +kernel
theorem dX3_tellHere_49 : decode cX3_tellHere 49 = .ok (.getfield 36, 3) := by decide +kernel
theorem dX3_tellHere_52 : decode cX3_tellHere 52 = .ok (.getfield 154, 3) := by decide +kernel
theorem dX3_tellHere_55 : decode cX3_tellHere 55 = .ok (.iconst 1, 1) := by decide +kernel
theorem dX3_tellHere_56 : decode cX3_tellHere 56 = .ok (.isub, 1) := by decide +kernel
theorem dX3_tellHere_57 : decode cX3_tellHere 57 = .ok (.iconst 1, 1) := by decide +kernel
theorem dX3_tellHere_58 : decode cX3_tellHere 58 = .ok (.iconst 2, 1) := by decide +kernel
theorem dX3_tellHere_59 : decode cX3_tellHere 59 = .ok (.invokevirtual 157, 3) := by decide +kernel
theorem dX3_tellHere_62 : decode cX3_tellHere 62 = .ok (.goto 8, 3) := by decide +kernel
theorem dX3_tellHere_65 : decode cX3_tellHere 65 = .ok (.aload_n 0, 1) := by decide +kernel
theorem dX3_tellHere_66 : decode cX3_tellHere 66 = .ok (.iconst 2, 1) := by decide +kernel
theorem dX3_tellHere_67 : decode cX3_tellHere 67 = .ok (.invokevirtual 89, 3) := by decide +kernel
theorem dX3_tellHere_7 : decode cX3_tellHere 7 = .ok (.aload_n 0, 1) := by decide +kernel
theorem dX3_tellHere_70 : decode cX3_tellHere 70 = .ok (.ireturn, 1) := by decide +kernel
theorem dX3_tellHere_8 : decode cX3_tellHere 8 = .ok (.invokevirtual 80, 3) := by decide +kernel
theorem dX3_tellOrDrive_0 : decode cX3_tellOrDrive 0 = .ok (.aload_n 0, 1) := by decide +kernel
theorem dX3_tellOrDrive_1 : decode cX3_tellOrDrive 1 = .ok (.getfield 18, 3) := by decide +kernel
theorem dX3_tellOrDrive_12 : decode cX3_tellOrDrive 12 = .ok (.aload_n 0, 1) := by decide +kernel
theorem dX3_tellOrDrive_13 : decode cX3_tellOrDrive 13 = .ok (.iconst 2, 1) := by decide +kernel
theorem dX3_tellOrDrive_14 : decode cX3_tellOrDrive 14 = .ok (.putfield 147, 3) := by decide +kernel
theorem dX3_tellOrDrive_17 : decode cX3_tellOrDrive 17 = .ok (.aload_n 0, 1) := by decide +kernel
theorem dX3_tellOrDrive_18 : decode cX3_tellOrDrive 18 = .ok (.aload_n 0, 1) := by decide +kernel
theorem dX3_tellOrDrive_19 : decode cX3_tellOrDrive 19 = .ok (.getfield 141, 3) := by decide +kernel
theorem dX3_tellOrDrive_22 : decode cX3_tellOrDrive 22 = .ok (.aload_n 0, 1) := by decide +kernel
theorem dX3_tellOrDrive_23 : decode cX3_tellOrDrive 23 = .ok (.getfield 144, 3) := by decide +kernel
theorem dX3_tellOrDrive_26 : decode cX3_tellOrDrive 26 = .ok (.iconst 2, 1) := by decide +kernel
theorem dX3_tellOrDrive_27 : decode cX3_tellOrDrive 27 = .ok (.invokevirtual 150, 3) := by decide +kernel
theorem dX3_tellOrDrive_30 : decode cX3_tellOrDrive 30 = .ok (.ifCond .eq 15, 3) := by decide +kernel
theorem dX3_tellOrDrive_33 : decode cX3_tellOrDrive 33 = .ok (.aload_n 0, 1) := by decide +kernel
theorem dX3_tellOrDrive_34 : decode cX3_tellOrDrive 34 = .ok (.iconst 4, 1) := by decide +kernel
theorem dX3_tellOrDrive_35 : decode cX3_tellOrDrive 35 = .ok (.invokevirtual 89, 3) := by decide +kernel
theorem dX3_tellOrDrive_38 : decode cX3_tellOrDrive 38 = .ok (.ifCond .eq 7, 3) := by decide +kernel
theorem dX3_tellOrDrive_4 : decode cX3_tellOrDrive 4 = .ok (.getfield 74, 3) := by decide +kernel
theorem dX3_tellOrDrive_41 : decode cX3_tellOrDrive 41 = .ok (.iconst 1, 1) := by decide +kernel
theorem dX3_tellOrDrive_42 : decode cX3_tellOrDrive 42 = .ok (.goto 4, 3) := by decide +kernel
theorem dX3_tellOrDrive_45 : decode cX3_tellOrDrive 45 = .ok (.iconst 0, 1) := by decide +kernel
theorem dX3_tellOrDrive_46 : decode cX3_tellOrDrive 46 = .ok (.ireturn, 1) := by decide +kernel
theorem dX3_tellOrDrive_47 : decode cX3_tellOrDrive 47 = .ok (.aload_n 0, 1) := by decide +kernel
theorem dX3_tellOrDrive_48 : decode cX3_tellOrDrive 48 = .ok (.getfield 18, 3) := by decide +kernel
theorem dX3_tellOrDrive_51 : decode cX3_tellOrDrive 51 = .ok (.getfield 74, 3) := by decide +kernel
theorem dX3_tellOrDrive_54 : decode cX3_tellOrDrive 54 = .ok (.bipush 60, 2) := by decide +kernel
theorem dX3_tellOrDrive_56 : decode cX3_tellOrDrive 56 = .ok (.if_icmp .ne 29, 3) := by decide +kernel
theorem dX3_tellOrDrive_59 : decode cX3_tellOrDrive 59 = .ok (.aload_n 0, 1) := by decide +kernel
theorem dX3_tellOrDrive_60 : decode cX3_tellOrDrive 60 = .ok (.iconst 4, 1) := by decide +kernel
theorem dX3_tellOrDrive_61 : decode cX3_tellOrDrive 61 = .ok (.putfield 147, 3) := by decide +kernel
theorem dX3_tellOrDrive_64 : decode cX3_tellOrDrive 64 = .ok (.aload_n 0, 1) := by decide +kernel
theorem dX3_tellOrDrive_65 : decode cX3_tellOrDrive 65 = .ok (.invokevirtual 161, 3) := by decide +kernel
theorem dX3_tellOrDrive_68 : decode cX3_tellOrDrive 68 = .ok (.ifCond .eq 15, 3) := by decide +kernel
theorem dX3_tellOrDrive_7 : decode cX3_tellOrDrive 7 = .ok (.bipush 61, 2) := by decide +kernel
theorem dX3_tellOrDrive_71 : decode cX3_tellOrDrive 71 = .ok (.aload_n 0, 1) := by decide +kernel
theorem dX3_tellOrDrive_72 : decode cX3_tellOrDrive 72 = .ok (.iconst 5, 1) := by decide +kernel
theorem dX3_tellOrDrive_73 : decode cX3_tellOrDrive 73 = .ok (.invokevirtual 89, 3) := by decide +kernel
theorem dX3_tellOrDrive_76 : decode cX3_tellOrDrive 76 = .ok (.ifCond .eq 7, 3) := by decide +kernel
theorem dX3_tellOrDrive_79 : decode cX3_tellOrDrive 79 = .ok (.iconst 1, 1) := by decide +kernel
theorem dX3_tellOrDrive_80 : decode cX3_tellOrDrive 80 = .ok (.goto 4, 3) := by decide +kernel
theorem dX3_tellOrDrive_83 : decode cX3_tellOrDrive 83 = .ok (.iconst 0, 1) := by decide +kernel
theorem dX3_tellOrDrive_84 : decode cX3_tellOrDrive 84 = .ok (.ireturn, 1) := by decide +kernel
theorem dX3_tellOrDrive_85 : decode cX3_tellOrDrive 85 = .ok (.aload_n 0, 1) := by decide +kernel
theorem dX3_tellOrDrive_86 : decode cX3_tellOrDrive 86 = .ok (.invokevirtual 80, 3) := by decide +kernel
theorem dX3_tellOrDrive_89 : decode cX3_tellOrDrive 89 = .ok (.ireturn, 1) := by decide +kernel
theorem dX3_tellOrDrive_9 : decode cX3_tellOrDrive 9 = .ok (.if_icmp .ne 38, 3) := by decide +kernel
theorem dX3_tell_0 : decode cX3_tell 0 = .ok (.aload_n 0, 1) := by decide +kernel
theorem dX3_tell_1 : decode cX3_tell 1 = .ok (.getfield 36, 3) := by decide +kernel
theorem dX3_tell_12 : decode cX3_tell 12 = .ok (.aload_n 0, 1) := by decide +kernel
theorem dX3_tell_13 : decode cX3_tell 13 = .ok (.iconst 2, 1) := by decide +kernel
theorem dX3_tell_14 : decode cX3_tell 14 = .ok (.iload_n 3, 1) := by decide +kernel
theorem dX3_tell_15 : decode cX3_tell 15 = .ok (.invokevirtual 117, 3) := by decide +kernel
theorem dX3_tell_18 : decode cX3_tell 18 = .ok (.ireturn, 1) := by decide +kernel
theorem dX3_tell_19 : decode cX3_tell 19 = .ok (.aload_n 0, 1) := by decide +kernel
theorem dX3_tell_20 : decode cX3_tell 20 = .ok (.getfield 36, 3) := by decide +kernel
theorem dX3_tell_23 : decode cX3_tell 23 = .ok (.lload_n 1, 1) := by decide +kernel
theorem dX3_tell_24 : decode cX3_tell 24 = .ok (.invokevirtual 164, 3) := by decide +kernel
theorem dX3_tell_27 : decode cX3_tell 27 = .ok (.iconst (-1), 1) := by decide +kernel
theorem dX3_tell_28 : decode cX3_tell 28 = .ok (.if_icmp .eq 10, 3) := by decide +kernel
theorem dX3_tell_31 : decode cX3_tell 31 = .ok (.aload_n 0, 1) := by decide +kernel
theorem dX3_tell_32 : decode cX3_tell 32 = .ok (.iconst 3, 1) := by decide +kernel
theorem dX3_tell_33 : decode cX3_tell 33 = .ok (.iload_n 3, 1) := by decide +kernel
theorem dX3_tell_34 : decode cX3_tell 34 = .ok (.invokevirtual 117, 3) := by decide +kernel
theorem dX3_tell_37 : decode cX3_tell 37 = .ok (.ireturn, 1) := by decide +kernel
theorem dX3_tell_38 : decode cX3_tell 38 = .ok (.aload_n 0, 1) := by decide +kernel
theorem dX3_tell_39 : decode cX3_tell 39 = .ok (.getfield 36, 3) := by decide +kernel
theorem dX3_tell_4 : decode cX3_tell 4 = .ok (.getfield 154, 3) := by decide +kernel
theorem dX3_tell_42 : decode cX3_tell 42 = .ok (.lload_n 1, 1) := by decide +kernel
theorem dX3_tell_43 : decode cX3_tell 43 = .ok (.iload_n 3, 1) := by decide +kernel
theorem dX3_tell_44 : decode cX3_tell 44 = .ok (.iload 4, 2) := by decide +kernel
theorem dX3_tell_46 : decode cX3_tell 46 = .ok (.invokevirtual 168, 3) := by decide +kernel
theorem dX3_tell_49 : decode cX3_tell 49 = .ok (.iconst 1, 1) := by decide +kernel
theorem dX3_tell_50 : decode cX3_tell 50 = .ok (.ireturn, 1) := by decide +kernel
theorem dX3_tell_7 : decode cX3_tell 7 = .ok (.bipush 60, 2) := by decide +kernel
theorem dX3_tell_9 : decode cX3_tell 9 = .ok (.if_icmp .lt 10, 3) := by decide +kernel
theorem dX4_arrive_0 : decode cX4_arrive 0 = .ok (.iconst 0, 1) := by decide +kernel
theorem dX4_arrive_1 : decode cX4_arrive 1 = .ok (.istore_n 2, 1) := by decide +kernel
theorem dX4_arrive_12 : decode cX4_arrive 12 = .ok (.iload_n 3, 1) := by decide +kernel
theorem dX4_arrive_13 : decode cX4_arrive 13 = .ok (.aload_n 0, 1) := by decide +kernel
theorem dX4_arrive_14 : decode cX4_arrive 14 = .ok (.getfield 27, 3) := by decide +kernel
theorem dX4_arrive_17 : decode cX4_arrive 17 = .ok (.invokestatic 56, 3) := by decide +kernel
theorem dX4_arrive_2 : decode cX4_arrive 2 = .ok (.iconst 0, 1) := by decide +kernel
theorem dX4_arrive_20 : decode cX4_arrive 20 = .ok (.istore 4, 2) := by decide +kernel
theorem dX4_arrive_22 : decode cX4_arrive 22 = .ok (.aload_n 0, 1) := by decide +kernel
theorem dX4_arrive_23 : decode cX4_arrive 23 = .ok (.getfield 18, 3) := by decide +kernel
theorem dX4_arrive_26 : decode cX4_arrive 26 = .ok (.iload 4, 2) := by decide +kernel
theorem dX4_arrive_28 : decode cX4_arrive 28 = .ok (.iaload, 1) := by decide +kernel
theorem dX4_arrive_29 : decode cX4_arrive 29 = .ok (.iconst (-1), 1) := by decide +kernel
theorem dX4_arrive_3 : decode cX4_arrive 3 = .ok (.istore_n 3, 1) := by decide +kernel
theorem dX4_arrive_30 : decode cX4_arrive 30 = .ok (.if_icmp .eq 36, 3) := by decide +kernel
theorem dX4_arrive_33 : decode cX4_arrive 33 = .ok (.iload_n 2, 1) := by decide +kernel
theorem dX4_arrive_34 : decode cX4_arrive 34 = .ok (.aload_n 0, 1) := by decide +kernel
theorem dX4_arrive_35 : decode cX4_arrive 35 = .ok (.iload_n 3, 1) := by decide +kernel
theorem dX4_arrive_36 : decode cX4_arrive 36 = .ok (.aload_n 0, 1) := by decide +kernel
theorem dX4_arrive_37 : decode cX4_arrive 37 = .ok (.getfield 18, 3) := by decide +kernel
theorem dX4_arrive_4 : decode cX4_arrive 4 = .ok (.iload_n 3, 1) := by decide +kernel
theorem dX4_arrive_40 : decode cX4_arrive 40 = .ok (.iload 4, 2) := by decide +kernel
theorem dX4_arrive_42 : decode cX4_arrive 42 = .ok (.iaload, 1) := by decide +kernel
theorem dX4_arrive_43 : decode cX4_arrive 43 = .ok (.invokevirtual 59, 3) := by decide +kernel
theorem dX4_arrive_46 : decode cX4_arrive 46 = .ok (.iadd, 1) := by decide +kernel
theorem dX4_arrive_47 : decode cX4_arrive 47 = .ok (.istore_n 2, 1) := by decide +kernel
theorem dX4_arrive_48 : decode cX4_arrive 48 = .ok (.aload_n 0, 1) := by decide +kernel
theorem dX4_arrive_49 : decode cX4_arrive 49 = .ok (.getfield 18, 3) := by decide +kernel
theorem dX4_arrive_5 : decode cX4_arrive 5 = .ok (.aload_n 1, 1) := by decide +kernel
theorem dX4_arrive_52 : decode cX4_arrive 52 = .ok (.iload 4, 2) := by decide +kernel
theorem dX4_arrive_54 : decode cX4_arrive 54 = .ok (.iconst (-1), 1) := by decide +kernel
theorem dX4_arrive_55 : decode cX4_arrive 55 = .ok (.iastore, 1) := by decide +kernel
theorem dX4_arrive_56 : decode cX4_arrive 56 = .ok (.aload_n 0, 1) := by decide +kernel
theorem dX4_arrive_57 : decode cX4_arrive 57 = .ok (.dup, 1) := by decide +kernel
theorem dX4_arrive_58 : decode cX4_arrive 58 = .ok (.getfield 31, 3) := by decide +kernel
theorem dX4_arrive_6 : decode cX4_arrive 6 = .ok (.getfield 38, 3) := by decide +kernel
theorem dX4_arrive_61 : decode cX4_arrive 61 = .ok (.iconst 1, 1) := by decide +kernel
theorem dX4_arrive_62 : decode cX4_arrive 62 = .ok (.isub, 1) := by decide +kernel
theorem dX4_arrive_63 : decode cX4_arrive 63 = .ok (.putfield 31, 3) := by decide +kernel
theorem dX4_arrive_66 : decode cX4_arrive 66 = .ok (.iinc 3 1, 3) := by decide +kernel
theorem dX4_arrive_69 : decode cX4_arrive 69 = .ok (.goto (-65), 3) := by decide +kernel
theorem dX4_arrive_72 : decode cX4_arrive 72 = .ok (.iload_n 2, 1) := by decide +kernel
theorem dX4_arrive_73 : decode cX4_arrive 73 = .ok (.ireturn, 1) := by decide +kernel
theorem dX4_arrive_9 : decode cX4_arrive 9 = .ok (.if_icmp .ge 63, 3) := by decide +kernel
theorem dX4_begin_0 : decode cX4_begin 0 = .ok (.aload_n 0, 1) := by decide +kernel
theorem dX4_begin_1 : decode cX4_begin 1 = .ok (.iconst 0, 1) := by decide +kernel
theorem dX4_begin_10 : decode cX4_begin 10 = .ok (.aload_n 0, 1) := by decide +kernel
theorem dX4_begin_11 : decode cX4_begin 11 = .ok (.lconst 0, 1) := by decide +kernel
theorem dX4_begin_12 : decode cX4_begin 12 = .ok (.putfield 34, 3) := by decide +kernel
theorem dX4_begin_15 : decode cX4_begin 15 = .ok (.iconst 0, 1) := by decide +kernel
theorem dX4_begin_16 : decode cX4_begin 16 = .ok (.istore_n 3, 1) := by decide +kernel
theorem dX4_begin_17 : decode cX4_begin 17 = .ok (.iload_n 3, 1) := by decide +kernel
theorem dX4_begin_18 : decode cX4_begin 18 = .ok (.aload_n 1, 1) := by decide +kernel
theorem dX4_begin_19 : decode cX4_begin 19 = .ok (.getfield 38, 3) := by decide +kernel
theorem dX4_begin_2 : decode cX4_begin 2 = .ok (.putfield 27, 3) := by decide +kernel
theorem dX4_begin_22 : decode cX4_begin 22 = .ok (.if_icmp .ge 34, 3) := by decide +kernel
theorem dX4_begin_25 : decode cX4_begin 25 = .ok (.aload_n 0, 1) := by decide +kernel
theorem dX4_begin_26 : decode cX4_begin 26 = .ok (.getfield 9, 3) := by decide +kernel
theorem dX4_begin_29 : decode cX4_begin 29 = .ok (.iload_n 3, 1) := by decide +kernel
theorem dX4_begin_30 : decode cX4_begin 30 = .ok (.aload_n 2, 1) := by decide +kernel
theorem dX4_begin_31 : decode cX4_begin 31 = .ok (.iload_n 3, 1) := by decide +kernel
theorem dX4_begin_32 : decode cX4_begin 32 = .ok (.iaload, 1) := by decide +kernel
theorem dX4_begin_33 : decode cX4_begin 33 = .ok (.iastore, 1) := by decide +kernel
theorem dX4_begin_34 : decode cX4_begin 34 = .ok (.aload_n 0, 1) := by decide +kernel
theorem dX4_begin_35 : decode cX4_begin 35 = .ok (.getfield 15, 3) := by decide +kernel
theorem dX4_begin_38 : decode cX4_begin 38 = .ok (.iload_n 3, 1) := by decide +kernel
theorem dX4_begin_39 : decode cX4_begin 39 = .ok (.aload_n 2, 1) := by decide +kernel
theorem dX4_begin_40 : decode cX4_begin 40 = .ok (.iload_n 3, 1) := by decide +kernel
theorem dX4_begin_41 : decode cX4_begin 41 = .ok (.iaload, 1) := by decide +kernel
theorem dX4_begin_42 : decode cX4_begin 42 = .ok (.iastore, 1) := by decide +kernel
theorem dX4_begin_43 : decode cX4_begin 43 = .ok (.aload_n 0, 1) := by decide +kernel
theorem dX4_begin_44 : decode cX4_begin 44 = .ok (.getfield 24, 3) := by decide +kernel
theorem dX4_begin_47 : decode cX4_begin 47 = .ok (.iload_n 3, 1) := by decide +kernel
theorem dX4_begin_48 : decode cX4_begin 48 = .ok (.iconst 0, 1) := by decide +kernel
theorem dX4_begin_49 : decode cX4_begin 49 = .ok (.iastore, 1) := by decide +kernel
theorem dX4_begin_5 : decode cX4_begin 5 = .ok (.aload_n 0, 1) := by decide +kernel
theorem dX4_begin_50 : decode cX4_begin 50 = .ok (.iinc 3 1, 3) := by decide +kernel
theorem dX4_begin_53 : decode cX4_begin 53 = .ok (.goto (-36), 3) := by decide +kernel
theorem dX4_begin_56 : decode cX4_begin 56 = .ok (.iconst 0, 1) := by decide +kernel
theorem dX4_begin_57 : decode cX4_begin 57 = .ok (.istore_n 3, 1) := by decide +kernel
theorem dX4_begin_58 : decode cX4_begin 58 = .ok (.iload_n 3, 1) := by decide +kernel
theorem dX4_begin_59 : decode cX4_begin 59 = .ok (.aload_n 1, 1) := by decide +kernel
theorem dX4_begin_6 : decode cX4_begin 6 = .ok (.iconst 0, 1) := by decide +kernel
theorem dX4_begin_60 : decode cX4_begin 60 = .ok (.getfield 38, 3) := by decide +kernel
theorem dX4_begin_63 : decode cX4_begin 63 = .ok (.bipush 10, 2) := by decide +kernel
theorem dX4_begin_65 : decode cX4_begin 65 = .ok (.imul, 1) := by decide +kernel
theorem dX4_begin_66 : decode cX4_begin 66 = .ok (.if_icmp .ge 16, 3) := by decide +kernel
theorem dX4_begin_69 : decode cX4_begin 69 = .ok (.aload_n 0, 1) := by decide +kernel
theorem dX4_begin_7 : decode cX4_begin 7 = .ok (.putfield 31, 3) := by decide +kernel
theorem dX4_begin_70 : decode cX4_begin 70 = .ok (.getfield 18, 3) := by decide +kernel
theorem dX4_begin_73 : decode cX4_begin 73 = .ok (.iload_n 3, 1) := by decide +kernel
theorem dX4_begin_74 : decode cX4_begin 74 = .ok (.iconst (-1), 1) := by decide +kernel
theorem dX4_begin_75 : decode cX4_begin 75 = .ok (.iastore, 1) := by decide +kernel
theorem dX4_begin_76 : decode cX4_begin 76 = .ok (.iinc 3 1, 3) := by decide +kernel
theorem dX4_begin_79 : decode cX4_begin 79 = .ok (.goto (-21), 3) := by decide +kernel
theorem dX4_begin_82 : decode cX4_begin 82 = .ok (.return_, 1) := by decide +kernel
theorem dX4_changeBuses_0 : decode cX4_changeBuses 0 = .ok (.iconst 0, 1) := by decide +kernel
theorem dX4_changeBuses_1 : decode cX4_changeBuses 1 = .ok (.istore_n 2, 1) := by decide +kernel
theorem dX4_changeBuses_12 : decode cX4_changeBuses 12 = .ok (.aload_n 1, 1) := by decide +kernel
theorem dX4_changeBuses_13 : decode cX4_changeBuses 13 = .ok (.getfield 76, 3) := by decide +kernel
theorem dX4_changeBuses_16 : decode cX4_changeBuses 16 = .ok (.iload_n 3, 1) := by decide +kernel
theorem dX4_changeBuses_17 : decode cX4_changeBuses 17 = .ok (.iaload, 1) := by decide +kernel
theorem dX4_changeBuses_18 : decode cX4_changeBuses 18 = .ok (.istore 4, 2) := by decide +kernel
theorem dX4_changeBuses_2 : decode cX4_changeBuses 2 = .ok (.iconst 0, 1) := by decide +kernel
theorem dX4_changeBuses_20 : decode cX4_changeBuses 20 = .ok (.aload_n 1, 1) := by decide +kernel
theorem dX4_changeBuses_21 : decode cX4_changeBuses 21 = .ok (.getfield 65, 3) := by decide +kernel
theorem dX4_changeBuses_24 : decode cX4_changeBuses 24 = .ok (.iload 4, 2) := by decide +kernel
theorem dX4_changeBuses_26 : decode cX4_changeBuses 26 = .ok (.iaload, 1) := by decide +kernel
theorem dX4_changeBuses_27 : decode cX4_changeBuses 27 = .ok (.iconst 1, 1) := by decide +kernel
theorem dX4_changeBuses_28 : decode cX4_changeBuses 28 = .ok (.if_icmp .ne 22, 3) := by decide +kernel
theorem dX4_changeBuses_3 : decode cX4_changeBuses 3 = .ok (.istore_n 3, 1) := by decide +kernel
theorem dX4_changeBuses_31 : decode cX4_changeBuses 31 = .ok (.iload_n 2, 1) := by decide +kernel
theorem dX4_changeBuses_32 : decode cX4_changeBuses 32 = .ok (.aload_n 0, 1) := by decide +kernel
theorem dX4_changeBuses_33 : decode cX4_changeBuses 33 = .ok (.iload 4, 2) := by decide +kernel
theorem dX4_changeBuses_35 : decode cX4_changeBuses 35 = .ok (.aload_n 1, 1) := by decide +kernel
theorem dX4_changeBuses_36 : decode cX4_changeBuses 36 = .ok (.iload 4, 2) := by decide +kernel
theorem dX4_changeBuses_38 : decode cX4_changeBuses 38 = .ok (.aload_n 0, 1) := by decide +kernel
theorem dX4_changeBuses_39 : decode cX4_changeBuses 39 = .ok (.getfield 9, 3) := by decide +kernel
theorem dX4_changeBuses_4 : decode cX4_changeBuses 4 = .ok (.iload_n 3, 1) := by decide +kernel
theorem dX4_changeBuses_42 : decode cX4_changeBuses 42 = .ok (.invokestatic 79, 3) := by decide +kernel
theorem dX4_changeBuses_45 : decode cX4_changeBuses 45 = .ok (.invokevirtual 59, 3) := by decide +kernel
theorem dX4_changeBuses_48 : decode cX4_changeBuses 48 = .ok (.iadd, 1) := by decide +kernel
theorem dX4_changeBuses_49 : decode cX4_changeBuses 49 = .ok (.istore_n 2, 1) := by decide +kernel
theorem dX4_changeBuses_5 : decode cX4_changeBuses 5 = .ok (.aload_n 1, 1) := by decide +kernel
theorem dX4_changeBuses_50 : decode cX4_changeBuses 50 = .ok (.iinc 3 1, 3) := by decide +kernel
theorem dX4_changeBuses_53 : decode cX4_changeBuses 53 = .ok (.goto (-49), 3) := by decide +kernel
theorem dX4_changeBuses_56 : decode cX4_changeBuses 56 = .ok (.iload_n 2, 1) := by decide +kernel
theorem dX4_changeBuses_57 : decode cX4_changeBuses 57 = .ok (.ireturn, 1) := by decide +kernel
theorem dX4_changeBuses_6 : decode cX4_changeBuses 6 = .ok (.getfield 38, 3) := by decide +kernel
theorem dX4_changeBuses_9 : decode cX4_changeBuses 9 = .ok (.if_icmp .ge 47, 3) := by decide +kernel
theorem dX4_changeOf_0 : decode cX4_changeOf 0 = .ok (.iload_n 2, 1) := by decide +kernel
theorem dX4_changeOf_1 : decode cX4_changeOf 1 = .ok (.ifCond .lt 27, 3) := by decide +kernel
theorem dX4_changeOf_10 : decode cX4_changeOf 10 = .ok (.iaload, 1) := by decide +kernel
theorem dX4_changeOf_11 : decode cX4_changeOf 11 = .ok (.if_icmp .ge 17, 3) := by decide +kernel
theorem dX4_changeOf_14 : decode cX4_changeOf 14 = .ok (.aload_n 0, 1) := by decide +kernel
theorem dX4_changeOf_15 : decode cX4_changeOf 15 = .ok (.getfield 21, 3) := by decide +kernel
theorem dX4_changeOf_18 : decode cX4_changeOf 18 = .ok (.iload_n 1, 1) := by decide +kernel
theorem dX4_changeOf_19 : decode cX4_changeOf 19 = .ok (.bipush 20, 2) := by decide +kernel
theorem dX4_changeOf_21 : decode cX4_changeOf 21 = .ok (.imul, 1) := by decide +kernel
theorem dX4_changeOf_22 : decode cX4_changeOf 22 = .ok (.iload_n 2, 1) := by decide +kernel
theorem dX4_changeOf_23 : decode cX4_changeOf 23 = .ok (.iadd, 1) := by decide +kernel
theorem dX4_changeOf_24 : decode cX4_changeOf 24 = .ok (.iaload, 1) := by decide +kernel
theorem dX4_changeOf_25 : decode cX4_changeOf 25 = .ok (.goto 4, 3) := by decide +kernel
theorem dX4_changeOf_28 : decode cX4_changeOf 28 = .ok (.iconst (-1), 1) := by decide +kernel
theorem dX4_changeOf_29 : decode cX4_changeOf 29 = .ok (.ireturn, 1) := by decide +kernel
theorem dX4_changeOf_4 : decode cX4_changeOf 4 = .ok (.iload_n 2, 1) := by decide +kernel
theorem dX4_changeOf_5 : decode cX4_changeOf 5 = .ok (.aload_n 0, 1) := by decide +kernel
theorem dX4_changeOf_6 : decode cX4_changeOf 6 = .ok (.getfield 24, 3) := by decide +kernel
theorem dX4_changeOf_9 : decode cX4_changeOf 9 = .ok (.iload_n 1, 1) := by decide +kernel
theorem dX4_change_0 : decode cX4_change 0 = .ok (.aload_n 0, 1) := by decide +kernel
theorem dX4_change_1 : decode cX4_change 1 = .ok (.getfield 9, 3) := by decide +kernel
theorem dX4_change_10 : decode cX4_change 10 = .ok (.iconst 0, 1) := by decide +kernel
theorem dX4_change_11 : decode cX4_change 11 = .ok (.ireturn, 1) := by decide +kernel
theorem dX4_change_12 : decode cX4_change 12 = .ok (.aload_n 0, 1) := by decide +kernel
theorem dX4_change_13 : decode cX4_change 13 = .ok (.getfield 9, 3) := by decide +kernel
theorem dX4_change_16 : decode cX4_change 16 = .ok (.iload_n 1, 1) := by decide +kernel
theorem dX4_change_17 : decode cX4_change 17 = .ok (.iload_n 2, 1) := by decide +kernel
theorem dX4_change_18 : decode cX4_change 18 = .ok (.iastore, 1) := by decide +kernel
theorem dX4_change_19 : decode cX4_change 19 = .ok (.aload_n 0, 1) := by decide +kernel
theorem dX4_change_20 : decode cX4_change 20 = .ok (.dup, 1) := by decide +kernel
theorem dX4_change_21 : decode cX4_change 21 = .ok (.getfield 34, 3) := by decide +kernel
theorem dX4_change_24 : decode cX4_change 24 = .ok (.lconst 1, 1) := by decide +kernel
theorem dX4_change_25 : decode cX4_change 25 = .ok (.iload_n 1, 1) := by decide +kernel
theorem dX4_change_26 : decode cX4_change 26 = .ok (.lshl, 1) := by decide +kernel
theorem dX4_change_27 : decode cX4_change 27 = .ok (.lor, 1) := by decide +kernel
theorem dX4_change_28 : decode cX4_change 28 = .ok (.putfield 34, 3) := by decide +kernel
theorem dX4_change_31 : decode cX4_change 31 = .ok (.aload_n 0, 1) := by decide +kernel
theorem dX4_change_32 : decode cX4_change 32 = .ok (.getfield 24, 3) := by decide +kernel
theorem dX4_change_35 : decode cX4_change 35 = .ok (.iload_n 1, 1) := by decide +kernel
theorem dX4_change_36 : decode cX4_change 36 = .ok (.iaload, 1) := by decide +kernel
theorem dX4_change_37 : decode cX4_change 37 = .ok (.bipush 20, 2) := by decide +kernel
theorem dX4_change_39 : decode cX4_change 39 = .ok (.if_icmp .ge 37, 3) := by decide +kernel
theorem dX4_change_4 : decode cX4_change 4 = .ok (.iload_n 1, 1) := by decide +kernel
theorem dX4_change_42 : decode cX4_change 42 = .ok (.aload_n 0, 1) := by decide +kernel
theorem dX4_change_43 : decode cX4_change 43 = .ok (.getfield 21, 3) := by decide +kernel
theorem dX4_change_46 : decode cX4_change 46 = .ok (.iload_n 1, 1) := by decide +kernel
theorem dX4_change_47 : decode cX4_change 47 = .ok (.bipush 20, 2) := by decide +kernel
theorem dX4_change_49 : decode cX4_change 49 = .ok (.imul, 1) := by decide +kernel
theorem dX4_change_5 : decode cX4_change 5 = .ok (.iaload, 1) := by decide +kernel
theorem dX4_change_50 : decode cX4_change 50 = .ok (.aload_n 0, 1) := by decide +kernel
theorem dX4_change_51 : decode cX4_change 51 = .ok (.getfield 24, 3) := by decide +kernel
theorem dX4_change_54 : decode cX4_change 54 = .ok (.iload_n 1, 1) := by decide +kernel
theorem dX4_change_55 : decode cX4_change 55 = .ok (.iaload, 1) := by decide +kernel
theorem dX4_change_56 : decode cX4_change 56 = .ok (.iadd, 1) := by decide +kernel
theorem dX4_change_57 : decode cX4_change 57 = .ok (.iconst 4, 1) := by decide +kernel
theorem dX4_change_58 : decode cX4_change 58 = .ok (.aload_n 0, 1) := by decide +kernel
theorem dX4_change_59 : decode cX4_change 59 = .ok (.getfield 27, 3) := by decide +kernel
theorem dX4_change_6 : decode cX4_change 6 = .ok (.iload_n 2, 1) := by decide +kernel
theorem dX4_change_62 : decode cX4_change 62 = .ok (.imul, 1) := by decide +kernel
theorem dX4_change_63 : decode cX4_change 63 = .ok (.iload_n 2, 1) := by decide +kernel
theorem dX4_change_64 : decode cX4_change 64 = .ok (.iadd, 1) := by decide +kernel
theorem dX4_change_65 : decode cX4_change 65 = .ok (.iastore, 1) := by decide +kernel
theorem dX4_change_66 : decode cX4_change 66 = .ok (.aload_n 0, 1) := by decide +kernel
theorem dX4_change_67 : decode cX4_change 67 = .ok (.getfield 24, 3) := by decide +kernel
theorem dX4_change_7 : decode cX4_change 7 = .ok (.if_icmp .ne 5, 3) := by decide +kernel
theorem dX4_change_70 : decode cX4_change 70 = .ok (.iload_n 1, 1) := by decide +kernel
theorem dX4_change_71 : decode cX4_change 71 = .ok (.dup2, 1) := by decide +kernel
theorem dX4_change_72 : decode cX4_change 72 = .ok (.iaload, 1) := by decide +kernel
theorem dX4_change_73 : decode cX4_change 73 = .ok (.iconst 1, 1) := by decide +kernel
theorem dX4_change_74 : decode cX4_change 74 = .ok (.iadd, 1) := by decide +kernel
theorem dX4_change_75 : decode cX4_change 75 = .ok (.iastore, 1) := by decide +kernel
theorem dX4_change_76 : decode cX4_change 76 = .ok (.iconst 1, 1) := by decide +kernel
theorem dX4_change_77 : decode cX4_change 77 = .ok (.ireturn, 1) := by decide +kernel
theorem dX4_follow_0 : decode cX4_follow 0 = .ok (.aload_n 0, 1) := by decide +kernel
theorem dX4_follow_1 : decode cX4_follow 1 = .ok (.getfield 34, 3) := by decide +kernel
theorem dX4_follow_10 : decode cX4_follow 10 = .ok (.ireturn, 1) := by decide +kernel
theorem dX4_follow_11 : decode cX4_follow 11 = .ok (.aload_n 0, 1) := by decide +kernel
theorem dX4_follow_12 : decode cX4_follow 12 = .ok (.aload_n 1, 1) := by decide +kernel
theorem dX4_follow_13 : decode cX4_follow 13 = .ok (.invokevirtual 62, 3) := by decide +kernel
theorem dX4_follow_16 : decode cX4_follow 16 = .ok (.istore_n 2, 1) := by decide +kernel
theorem dX4_follow_17 : decode cX4_follow 17 = .ok (.iconst 0, 1) := by decide +kernel
theorem dX4_follow_18 : decode cX4_follow 18 = .ok (.istore_n 3, 1) := by decide +kernel
theorem dX4_follow_19 : decode cX4_follow 19 = .ok (.iload_n 3, 1) := by decide +kernel
theorem dX4_follow_20 : decode cX4_follow 20 = .ok (.aload_n 1, 1) := by decide +kernel
theorem dX4_follow_21 : decode cX4_follow 21 = .ok (.getfield 38, 3) := by decide +kernel
theorem dX4_follow_24 : decode cX4_follow 24 = .ok (.if_icmp .ge 37, 3) := by decide +kernel
theorem dX4_follow_27 : decode cX4_follow 27 = .ok (.aload_n 1, 1) := by decide +kernel
theorem dX4_follow_28 : decode cX4_follow 28 = .ok (.getfield 65, 3) := by decide +kernel
theorem dX4_follow_31 : decode cX4_follow 31 = .ok (.iload_n 3, 1) := by decide +kernel
theorem dX4_follow_32 : decode cX4_follow 32 = .ok (.iaload, 1) := by decide +kernel
theorem dX4_follow_33 : decode cX4_follow 33 = .ok (.iconst 2, 1) := by decide +kernel
theorem dX4_follow_34 : decode cX4_follow 34 = .ok (.if_icmp .ne 21, 3) := by decide +kernel
theorem dX4_follow_37 : decode cX4_follow 37 = .ok (.aload_n 1, 1) := by decide +kernel
theorem dX4_follow_38 : decode cX4_follow 38 = .ok (.iload_n 3, 1) := by decide +kernel
theorem dX4_follow_39 : decode cX4_follow 39 = .ok (.aload_n 0, 1) := by decide +kernel
theorem dX4_follow_4 : decode cX4_follow 4 = .ok (.lconst 0, 1) := by decide +kernel
theorem dX4_follow_40 : decode cX4_follow 40 = .ok (.getfield 34, 3) := by decide +kernel
theorem dX4_follow_43 : decode cX4_follow 43 = .ok (.invokevirtual 68, 3) := by decide +kernel
theorem dX4_follow_46 : decode cX4_follow 46 = .ok (.ifCond .eq 9, 3) := by decide +kernel
theorem dX4_follow_49 : decode cX4_follow 49 = .ok (.aload_n 0, 1) := by decide +kernel
theorem dX4_follow_5 : decode cX4_follow 5 = .ok (.lcmp, 1) := by decide +kernel
theorem dX4_follow_50 : decode cX4_follow 50 = .ok (.aload_n 1, 1) := by decide +kernel
theorem dX4_follow_51 : decode cX4_follow 51 = .ok (.iload_n 3, 1) := by decide +kernel
theorem dX4_follow_52 : decode cX4_follow 52 = .ok (.invokevirtual 72, 3) := by decide +kernel
theorem dX4_follow_55 : decode cX4_follow 55 = .ok (.iinc 3 1, 3) := by decide +kernel
theorem dX4_follow_58 : decode cX4_follow 58 = .ok (.goto (-39), 3) := by decide +kernel
theorem dX4_follow_6 : decode cX4_follow 6 = .ok (.ifCond .ne 5, 3) := by decide +kernel
theorem dX4_follow_61 : decode cX4_follow 61 = .ok (.aload_n 0, 1) := by decide +kernel
theorem dX4_follow_62 : decode cX4_follow 62 = .ok (.lconst 0, 1) := by decide +kernel
theorem dX4_follow_63 : decode cX4_follow 63 = .ok (.putfield 34, 3) := by decide +kernel
theorem dX4_follow_66 : decode cX4_follow 66 = .ok (.iload_n 2, 1) := by decide +kernel
theorem dX4_follow_67 : decode cX4_follow 67 = .ok (.ireturn, 1) := by decide +kernel
theorem dX4_follow_9 : decode cX4_follow 9 = .ok (.iconst 0, 1) := by decide +kernel
theorem dX4_lookAt_0 : decode cX4_lookAt 0 = .ok (.aload_n 1, 1) := by decide +kernel
theorem dX4_lookAt_1 : decode cX4_lookAt 1 = .ok (.iload_n 2, 1) := by decide +kernel
theorem dX4_lookAt_10 : decode cX4_lookAt 10 = .ok (.iload_n 3, 1) := by decide +kernel
theorem dX4_lookAt_11 : decode cX4_lookAt 11 = .ok (.aload_n 0, 1) := by decide +kernel
theorem dX4_lookAt_12 : decode cX4_lookAt 12 = .ok (.getfield 15, 3) := by decide +kernel
theorem dX4_lookAt_15 : decode cX4_lookAt 15 = .ok (.iload_n 2, 1) := by decide +kernel
theorem dX4_lookAt_16 : decode cX4_lookAt 16 = .ok (.iaload, 1) := by decide +kernel
theorem dX4_lookAt_17 : decode cX4_lookAt 17 = .ok (.if_icmp .ne 4, 3) := by decide +kernel
theorem dX4_lookAt_2 : decode cX4_lookAt 2 = .ok (.aload_n 0, 1) := by decide +kernel
theorem dX4_lookAt_20 : decode cX4_lookAt 20 = .ok (.return_, 1) := by decide +kernel
theorem dX4_lookAt_21 : decode cX4_lookAt 21 = .ok (.aload_n 0, 1) := by decide +kernel
theorem dX4_lookAt_22 : decode cX4_lookAt 22 = .ok (.getfield 15, 3) := by decide +kernel
theorem dX4_lookAt_25 : decode cX4_lookAt 25 = .ok (.iload_n 2, 1) := by decide +kernel
theorem dX4_lookAt_26 : decode cX4_lookAt 26 = .ok (.iload_n 3, 1) := by decide +kernel
theorem dX4_lookAt_27 : decode cX4_lookAt 27 = .ok (.iastore, 1) := by decide +kernel
theorem dX4_lookAt_28 : decode cX4_lookAt 28 = .ok (.iload_n 2, 1) := by decide +kernel
theorem dX4_lookAt_29 : decode cX4_lookAt 29 = .ok (.aload_n 0, 1) := by decide +kernel
theorem dX4_lookAt_3 : decode cX4_lookAt 3 = .ok (.getfield 9, 3) := by decide +kernel
theorem dX4_lookAt_30 : decode cX4_lookAt 30 = .ok (.getfield 27, 3) := by decide +kernel
theorem dX4_lookAt_33 : decode cX4_lookAt 33 = .ok (.aload_n 1, 1) := by decide +kernel
theorem dX4_lookAt_34 : decode cX4_lookAt 34 = .ok (.getfield 88, 3) := by decide +kernel
theorem dX4_lookAt_37 : decode cX4_lookAt 37 = .ok (.iload_n 2, 1) := by decide +kernel
theorem dX4_lookAt_38 : decode cX4_lookAt 38 = .ok (.iaload, 1) := by decide +kernel
theorem dX4_lookAt_39 : decode cX4_lookAt 39 = .ok (.iadd, 1) := by decide +kernel
theorem dX4_lookAt_40 : decode cX4_lookAt 40 = .ok (.invokestatic 56, 3) := by decide +kernel
theorem dX4_lookAt_43 : decode cX4_lookAt 43 = .ok (.istore 4, 2) := by decide +kernel
theorem dX4_lookAt_45 : decode cX4_lookAt 45 = .ok (.aload_n 0, 1) := by decide +kernel
theorem dX4_lookAt_46 : decode cX4_lookAt 46 = .ok (.getfield 18, 3) := by decide +kernel
theorem dX4_lookAt_49 : decode cX4_lookAt 49 = .ok (.iload 4, 2) := by decide +kernel
theorem dX4_lookAt_51 : decode cX4_lookAt 51 = .ok (.iaload, 1) := by decide +kernel
theorem dX4_lookAt_52 : decode cX4_lookAt 52 = .ok (.iconst (-1), 1) := by decide +kernel
theorem dX4_lookAt_53 : decode cX4_lookAt 53 = .ok (.if_icmp .ne 13, 3) := by decide +kernel
theorem dX4_lookAt_56 : decode cX4_lookAt 56 = .ok (.aload_n 0, 1) := by decide +kernel
theorem dX4_lookAt_57 : decode cX4_lookAt 57 = .ok (.dup, 1) := by decide +kernel
theorem dX4_lookAt_58 : decode cX4_lookAt 58 = .ok (.getfield 31, 3) := by decide +kernel
theorem dX4_lookAt_6 : decode cX4_lookAt 6 = .ok (.invokestatic 85, 3) := by decide +kernel
theorem dX4_lookAt_61 : decode cX4_lookAt 61 = .ok (.iconst 1, 1) := by decide +kernel
theorem dX4_lookAt_62 : decode cX4_lookAt 62 = .ok (.iadd, 1) := by decide +kernel
theorem dX4_lookAt_63 : decode cX4_lookAt 63 = .ok (.putfield 31, 3) := by decide +kernel
theorem dX4_lookAt_66 : decode cX4_lookAt 66 = .ok (.aload_n 0, 1) := by decide +kernel
theorem dX4_lookAt_67 : decode cX4_lookAt 67 = .ok (.getfield 18, 3) := by decide +kernel
theorem dX4_lookAt_70 : decode cX4_lookAt 70 = .ok (.iload 4, 2) := by decide +kernel
theorem dX4_lookAt_72 : decode cX4_lookAt 72 = .ok (.iload_n 3, 1) := by decide +kernel
theorem dX4_lookAt_73 : decode cX4_lookAt 73 = .ok (.iastore, 1) := by decide +kernel
theorem dX4_lookAt_74 : decode cX4_lookAt 74 = .ok (.return_, 1) := by decide +kernel
theorem dX4_lookAt_9 : decode cX4_lookAt 9 = .ok (.istore_n 3, 1) := by decide +kernel
theorem dX4_quiet_0 : decode cX4_quiet 0 = .ok (.aload_n 0, 1) := by decide +kernel
theorem dX4_quiet_1 : decode cX4_quiet 1 = .ok (.getfield 31, 3) := by decide +kernel
theorem dX4_quiet_11 : decode cX4_quiet 11 = .ok (.lconst 0, 1) := by decide +kernel
theorem dX4_quiet_12 : decode cX4_quiet 12 = .ok (.lcmp, 1) := by decide +kernel
theorem dX4_quiet_13 : decode cX4_quiet 13 = .ok (.ifCond .ne 7, 3) := by decide +kernel
theorem dX4_quiet_16 : decode cX4_quiet 16 = .ok (.iconst 1, 1) := by decide +kernel
theorem dX4_quiet_17 : decode cX4_quiet 17 = .ok (.goto 4, 3) := by decide +kernel
theorem dX4_quiet_20 : decode cX4_quiet 20 = .ok (.iconst 0, 1) := by decide +kernel
theorem dX4_quiet_21 : decode cX4_quiet 21 = .ok (.ireturn, 1) := by decide +kernel
theorem dX4_quiet_4 : decode cX4_quiet 4 = .ok (.ifCond .ne 16, 3) := by decide +kernel
theorem dX4_quiet_7 : decode cX4_quiet 7 = .ok (.aload_n 0, 1) := by decide +kernel
theorem dX4_quiet_8 : decode cX4_quiet 8 = .ok (.getfield 34, 3) := by decide +kernel
theorem dX4_slotAt_0 : decode cX4_slotAt 0 = .ok (.iload_n 0, 1) := by decide +kernel
theorem dX4_slotAt_1 : decode cX4_slotAt 1 = .ok (.bipush 10, 2) := by decide +kernel
theorem dX4_slotAt_10 : decode cX4_slotAt 10 = .ok (.iadd, 1) := by decide +kernel
theorem dX4_slotAt_11 : decode cX4_slotAt 11 = .ok (.ireturn, 1) := by decide +kernel
theorem dX4_slotAt_3 : decode cX4_slotAt 3 = .ok (.imul, 1) := by decide +kernel
theorem dX4_slotAt_4 : decode cX4_slotAt 4 = .ok (.iload_n 1, 1) := by decide +kernel
theorem dX4_slotAt_5 : decode cX4_slotAt 5 = .ok (.bipush 10, 2) := by decide +kernel
theorem dX4_slotAt_7 : decode cX4_slotAt 7 = .ok (.invokestatic 50, 3) := by decide +kernel
theorem dX4_turn_0 : decode cX4_turn 0 = .ok (.aload_n 0, 1) := by decide +kernel
theorem dX4_turn_1 : decode cX4_turn 1 = .ok (.getfield 27, 3) := by decide +kernel
theorem dX4_turn_12 : decode cX4_turn 12 = .ok (.istore 4, 2) := by decide +kernel
theorem dX4_turn_14 : decode cX4_turn 14 = .ok (.iconst 0, 1) := by decide +kernel
theorem dX4_turn_15 : decode cX4_turn 15 = .ok (.istore 5, 2) := by decide +kernel
theorem dX4_turn_17 : decode cX4_turn 17 = .ok (.iload 5, 2) := by decide +kernel
theorem dX4_turn_19 : decode cX4_turn 19 = .ok (.iload_n 2, 1) := by decide +kernel
theorem dX4_turn_20 : decode cX4_turn 20 = .ok (.if_icmp .ge 46, 3) := by decide +kernel
theorem dX4_turn_23 : decode cX4_turn 23 = .ok (.aload_n 0, 1) := by decide +kernel
theorem dX4_turn_24 : decode cX4_turn 24 = .ok (.getfield 31, 3) := by decide +kernel
theorem dX4_turn_27 : decode cX4_turn 27 = .ok (.ifCond .le 39, 3) := by decide +kernel
theorem dX4_turn_30 : decode cX4_turn 30 = .ok (.aload_n 0, 1) := by decide +kernel
theorem dX4_turn_31 : decode cX4_turn 31 = .ok (.dup, 1) := by decide +kernel
theorem dX4_turn_32 : decode cX4_turn 32 = .ok (.getfield 27, 3) := by decide +kernel
theorem dX4_turn_35 : decode cX4_turn 35 = .ok (.iconst 1, 1) := by decide +kernel
theorem dX4_turn_36 : decode cX4_turn 36 = .ok (.iadd, 1) := by decide +kernel
theorem dX4_turn_37 : decode cX4_turn 37 = .ok (.putfield 27, 3) := by decide +kernel
theorem dX4_turn_4 : decode cX4_turn 4 = .ok (.iload_n 2, 1) := by decide +kernel
theorem dX4_turn_40 : decode cX4_turn 40 = .ok (.iload 4, 2) := by decide +kernel
theorem dX4_turn_42 : decode cX4_turn 42 = .ok (.aload_n 0, 1) := by decide +kernel
theorem dX4_turn_43 : decode cX4_turn 43 = .ok (.aload_n 1, 1) := by decide +kernel
theorem dX4_turn_44 : decode cX4_turn 44 = .ok (.invokevirtual 47, 3) := by decide +kernel
theorem dX4_turn_47 : decode cX4_turn 47 = .ok (.iadd, 1) := by decide +kernel
theorem dX4_turn_48 : decode cX4_turn 48 = .ok (.istore 4, 2) := by decide +kernel
theorem dX4_turn_5 : decode cX4_turn 5 = .ok (.iadd, 1) := by decide +kernel
theorem dX4_turn_50 : decode cX4_turn 50 = .ok (.iload 4, 2) := by decide +kernel
theorem dX4_turn_52 : decode cX4_turn 52 = .ok (.aload_n 0, 1) := by decide +kernel
theorem dX4_turn_53 : decode cX4_turn 53 = .ok (.aload_n 1, 1) := by decide +kernel
theorem dX4_turn_54 : decode cX4_turn 54 = .ok (.invokevirtual 43, 3) := by decide +kernel
theorem dX4_turn_57 : decode cX4_turn 57 = .ok (.iadd, 1) := by decide +kernel
theorem dX4_turn_58 : decode cX4_turn 58 = .ok (.istore 4, 2) := by decide +kernel
theorem dX4_turn_6 : decode cX4_turn 6 = .ok (.istore_n 3, 1) := by decide +kernel
theorem dX4_turn_60 : decode cX4_turn 60 = .ok (.iinc 5 1, 3) := by decide +kernel
theorem dX4_turn_63 : decode cX4_turn 63 = .ok (.goto (-46), 3) := by decide +kernel
theorem dX4_turn_66 : decode cX4_turn 66 = .ok (.aload_n 0, 1) := by decide +kernel
theorem dX4_turn_67 : decode cX4_turn 67 = .ok (.iload_n 3, 1) := by decide +kernel
theorem dX4_turn_68 : decode cX4_turn 68 = .ok (.putfield 27, 3) := by decide +kernel
theorem dX4_turn_7 : decode cX4_turn 7 = .ok (.aload_n 0, 1) := by decide +kernel
theorem dX4_turn_71 : decode cX4_turn 71 = .ok (.iload 4, 2) := by decide +kernel
theorem dX4_turn_73 : decode cX4_turn 73 = .ok (.ireturn, 1) := by decide +kernel
theorem dX4_turn_8 : decode cX4_turn 8 = .ok (.aload_n 1, 1) := by decide +kernel
theorem dX4_turn_9 : decode cX4_turn 9 = .ok (.invokevirtual 43, 3) := by decide +kernel
theorem dX5_busRow_0 : decode cX5_busRow 0 = .ok (.lconst 0, 1) := by decide +kernel
theorem dX5_busRow_1 : decode cX5_busRow 1 = .ok (.lstore_n 3, 1) := by decide +kernel
theorem dX5_busRow_10 : decode cX5_busRow 10 = .ok (.invokevirtual 85, 3) := by decide +kernel
theorem dX5_busRow_100 : decode cX5_busRow 100 = .ok (.lor, 1) := by decide +kernel
theorem dX5_busRow_101 : decode cX5_busRow 101 = .ok (.lstore 5, 2) := by decide +kernel
theorem dX5_busRow_103 : decode cX5_busRow 103 = .ok (.iinc 10 1, 3) := by decide +kernel
theorem dX5_busRow_106 : decode cX5_busRow 106 = .ok (.goto (-88), 3) := by decide +kernel
theorem dX5_busRow_109 : decode cX5_busRow 109 = .ok (.aload_n 0, 1) := by decide +kernel
theorem dX5_busRow_110 : decode cX5_busRow 110 = .ok (.dup, 1) := by decide +kernel
theorem dX5_busRow_111 : decode cX5_busRow 111 = .ok (.getfield 28, 3) := by decide +kernel
theorem dX5_busRow_114 : decode cX5_busRow 114 = .ok (.lload 5, 2) := by decide +kernel
theorem dX5_busRow_116 : decode cX5_busRow 116 = .ok (.lload 7, 2) := by decide +kernel
theorem dX5_busRow_118 : decode cX5_busRow 118 = .ok (.ldc2_w 26, 3) := by decide +kernel
theorem dX5_busRow_121 : decode cX5_busRow 121 = .ok (.lxor, 1) := by decide +kernel
theorem dX5_busRow_122 : decode cX5_busRow 122 = .ok (.land, 1) := by decide +kernel
theorem dX5_busRow_123 : decode cX5_busRow 123 = .ok (.land, 1) := by decide +kernel
theorem dX5_busRow_124 : decode cX5_busRow 124 = .ok (.putfield 28, 3) := by decide +kernel
theorem dX5_busRow_127 : decode cX5_busRow 127 = .ok (.lload_n 3, 1) := by decide +kernel
theorem dX5_busRow_128 : decode cX5_busRow 128 = .ok (.lreturn, 1) := by decide +kernel
theorem dX5_busRow_13 : decode cX5_busRow 13 = .ok (.istore 9, 2) := by decide +kernel
theorem dX5_busRow_15 : decode cX5_busRow 15 = .ok (.iconst 0, 1) := by decide +kernel
theorem dX5_busRow_16 : decode cX5_busRow 16 = .ok (.istore 10, 2) := by decide +kernel
theorem dX5_busRow_18 : decode cX5_busRow 18 = .ok (.iload 10, 2) := by decide +kernel
theorem dX5_busRow_2 : decode cX5_busRow 2 = .ok (.lconst 0, 1) := by decide +kernel
theorem dX5_busRow_20 : decode cX5_busRow 20 = .ok (.iload 9, 2) := by decide +kernel
theorem dX5_busRow_22 : decode cX5_busRow 22 = .ok (.if_icmp .ge 87, 3) := by decide +kernel
theorem dX5_busRow_25 : decode cX5_busRow 25 = .ok (.aload_n 0, 1) := by decide +kernel
theorem dX5_busRow_26 : decode cX5_busRow 26 = .ok (.getfield 9, 3) := by decide +kernel
theorem dX5_busRow_29 : decode cX5_busRow 29 = .ok (.aload_n 1, 1) := by decide +kernel
theorem dX5_busRow_3 : decode cX5_busRow 3 = .ok (.lstore 5, 2) := by decide +kernel
theorem dX5_busRow_30 : decode cX5_busRow 30 = .ok (.iload_n 2, 1) := by decide +kernel
theorem dX5_busRow_31 : decode cX5_busRow 31 = .ok (.iconst 2, 1) := by decide +kernel
theorem dX5_busRow_32 : decode cX5_busRow 32 = .ok (.iload 10, 2) := by decide +kernel
theorem dX5_busRow_34 : decode cX5_busRow 34 = .ok (.imul, 1) := by decide +kernel
theorem dX5_busRow_35 : decode cX5_busRow 35 = .ok (.iconst 1, 1) := by decide +kernel
theorem dX5_busRow_36 : decode cX5_busRow 36 = .ok (.iadd, 1) := by decide +kernel
theorem dX5_busRow_37 : decode cX5_busRow 37 = .ok (.invokevirtual 79, 3) := by decide +kernel
theorem dX5_busRow_40 : decode cX5_busRow 40 = .ok (.laload, 1) := by decide +kernel
theorem dX5_busRow_41 : decode cX5_busRow 41 = .ok (.lstore 11, 2) := by decide +kernel
theorem dX5_busRow_43 : decode cX5_busRow 43 = .ok (.aload_n 1, 1) := by decide +kernel
theorem dX5_busRow_44 : decode cX5_busRow 44 = .ok (.iload_n 2, 1) := by decide +kernel
theorem dX5_busRow_45 : decode cX5_busRow 45 = .ok (.iload 10, 2) := by decide +kernel
theorem dX5_busRow_47 : decode cX5_busRow 47 = .ok (.invokevirtual 96, 3) := by decide +kernel
theorem dX5_busRow_5 : decode cX5_busRow 5 = .ok (.lconst 0, 1) := by decide +kernel
theorem dX5_busRow_50 : decode cX5_busRow 50 = .ok (.ifCond .eq 12, 3) := by decide +kernel
theorem dX5_busRow_53 : decode cX5_busRow 53 = .ok (.lload 11, 2) := by decide +kernel
theorem dX5_busRow_55 : decode cX5_busRow 55 = .ok (.ldc2_w 26, 3) := by decide +kernel
theorem dX5_busRow_58 : decode cX5_busRow 58 = .ok (.lxor, 1) := by decide +kernel
theorem dX5_busRow_59 : decode cX5_busRow 59 = .ok (.goto 5, 3) := by decide +kernel
theorem dX5_busRow_6 : decode cX5_busRow 6 = .ok (.lstore 7, 2) := by decide +kernel
theorem dX5_busRow_62 : decode cX5_busRow 62 = .ok (.lload 11, 2) := by decide +kernel
theorem dX5_busRow_64 : decode cX5_busRow 64 = .ok (.lstore 13, 2) := by decide +kernel
theorem dX5_busRow_66 : decode cX5_busRow 66 = .ok (.lload_n 3, 1) := by decide +kernel
theorem dX5_busRow_67 : decode cX5_busRow 67 = .ok (.lload 13, 2) := by decide +kernel
theorem dX5_busRow_69 : decode cX5_busRow 69 = .ok (.aload_n 0, 1) := by decide +kernel
theorem dX5_busRow_70 : decode cX5_busRow 70 = .ok (.getfield 9, 3) := by decide +kernel
theorem dX5_busRow_73 : decode cX5_busRow 73 = .ok (.aload_n 1, 1) := by decide +kernel
theorem dX5_busRow_74 : decode cX5_busRow 74 = .ok (.iload_n 2, 1) := by decide +kernel
theorem dX5_busRow_75 : decode cX5_busRow 75 = .ok (.iconst 2, 1) := by decide +kernel
theorem dX5_busRow_76 : decode cX5_busRow 76 = .ok (.iload 10, 2) := by decide +kernel
theorem dX5_busRow_78 : decode cX5_busRow 78 = .ok (.imul, 1) := by decide +kernel
theorem dX5_busRow_79 : decode cX5_busRow 79 = .ok (.invokevirtual 79, 3) := by decide +kernel
theorem dX5_busRow_8 : decode cX5_busRow 8 = .ok (.aload_n 1, 1) := by decide +kernel
theorem dX5_busRow_82 : decode cX5_busRow 82 = .ok (.laload, 1) := by decide +kernel
theorem dX5_busRow_83 : decode cX5_busRow 83 = .ok (.land, 1) := by decide +kernel
theorem dX5_busRow_84 : decode cX5_busRow 84 = .ok (.lor, 1) := by decide +kernel
theorem dX5_busRow_85 : decode cX5_busRow 85 = .ok (.lstore_n 3, 1) := by decide +kernel
theorem dX5_busRow_86 : decode cX5_busRow 86 = .ok (.lload 7, 2) := by decide +kernel
theorem dX5_busRow_88 : decode cX5_busRow 88 = .ok (.lload 5, 2) := by decide +kernel
theorem dX5_busRow_9 : decode cX5_busRow 9 = .ok (.iload_n 2, 1) := by decide +kernel
theorem dX5_busRow_90 : decode cX5_busRow 90 = .ok (.lload 13, 2) := by decide +kernel
theorem dX5_busRow_92 : decode cX5_busRow 92 = .ok (.land, 1) := by decide +kernel
theorem dX5_busRow_93 : decode cX5_busRow 93 = .ok (.lor, 1) := by decide +kernel
theorem dX5_busRow_94 : decode cX5_busRow 94 = .ok (.lstore 7, 2) := by decide +kernel
theorem dX5_busRow_96 : decode cX5_busRow 96 = .ok (.lload 5, 2) := by decide +kernel
theorem dX5_busRow_98 : decode cX5_busRow 98 = .ok (.lload 13, 2) := by decide +kernel
theorem dX5_collect_0 : decode cX5_collect 0 = .ok (.aload_n 0, 1) := by decide +kernel
theorem dX5_collect_1 : decode cX5_collect 1 = .ok (.dup, 1) := by decide +kernel
theorem dX5_collect_12 : decode cX5_collect 12 = .ok (.iadd, 1) := by decide +kernel
theorem dX5_collect_13 : decode cX5_collect 13 = .ok (.putfield 15, 3) := by decide +kernel
theorem dX5_collect_16 : decode cX5_collect 16 = .ok (.iconst 0, 1) := by decide +kernel
theorem dX5_collect_17 : decode cX5_collect 17 = .ok (.istore_n 2, 1) := by decide +kernel
theorem dX5_collect_18 : decode cX5_collect 18 = .ok (.iload_n 2, 1) := by decide +kernel
theorem dX5_collect_19 : decode cX5_collect 19 = .ok (.aload_n 1, 1) := by decide +kernel
theorem dX5_collect_2 : decode cX5_collect 2 = .ok (.getfield 15, 3) := by decide +kernel
theorem dX5_collect_20 : decode cX5_collect 20 = .ok (.getfield 46, 3) := by decide +kernel
theorem dX5_collect_23 : decode cX5_collect 23 = .ok (.if_icmp .ge 69, 3) := by decide +kernel
theorem dX5_collect_26 : decode cX5_collect 26 = .ok (.aload_n 0, 1) := by decide +kernel
theorem dX5_collect_27 : decode cX5_collect 27 = .ok (.getfield 9, 3) := by decide +kernel
theorem dX5_collect_30 : decode cX5_collect 30 = .ok (.iload_n 2, 1) := by decide +kernel
theorem dX5_collect_31 : decode cX5_collect 31 = .ok (.laload, 1) := by decide +kernel
theorem dX5_collect_32 : decode cX5_collect 32 = .ok (.aload_n 0, 1) := by decide +kernel
theorem dX5_collect_33 : decode cX5_collect 33 = .ok (.getfield 28, 3) := by decide +kernel
theorem dX5_collect_36 : decode cX5_collect 36 = .ok (.land, 1) := by decide +kernel
theorem dX5_collect_37 : decode cX5_collect 37 = .ok (.lconst 0, 1) := by decide +kernel
theorem dX5_collect_38 : decode cX5_collect 38 = .ok (.lcmp, 1) := by decide +kernel
theorem dX5_collect_39 : decode cX5_collect 39 = .ok (.ifCond .eq 15, 3) := by decide +kernel
theorem dX5_collect_42 : decode cX5_collect 42 = .ok (.aload_n 0, 1) := by decide +kernel
theorem dX5_collect_43 : decode cX5_collect 43 = .ok (.dup, 1) := by decide +kernel
theorem dX5_collect_44 : decode cX5_collect 44 = .ok (.getfield 23, 3) := by decide +kernel
theorem dX5_collect_47 : decode cX5_collect 47 = .ok (.lconst 1, 1) := by decide +kernel
theorem dX5_collect_48 : decode cX5_collect 48 = .ok (.iload_n 2, 1) := by decide +kernel
theorem dX5_collect_49 : decode cX5_collect 49 = .ok (.lshl, 1) := by decide +kernel
theorem dX5_collect_5 : decode cX5_collect 5 = .ok (.aload_n 0, 1) := by decide +kernel
theorem dX5_collect_50 : decode cX5_collect 50 = .ok (.lor, 1) := by decide +kernel
theorem dX5_collect_51 : decode cX5_collect 51 = .ok (.putfield 23, 3) := by decide +kernel
theorem dX5_collect_54 : decode cX5_collect 54 = .ok (.aload_n 0, 1) := by decide +kernel
theorem dX5_collect_55 : decode cX5_collect 55 = .ok (.getfield 9, 3) := by decide +kernel
theorem dX5_collect_58 : decode cX5_collect 58 = .ok (.iload_n 2, 1) := by decide +kernel
theorem dX5_collect_59 : decode cX5_collect 59 = .ok (.laload, 1) := by decide +kernel
theorem dX5_collect_6 : decode cX5_collect 6 = .ok (.getfield 28, 3) := by decide +kernel
theorem dX5_collect_60 : decode cX5_collect 60 = .ok (.ldc2_w 26, 3) := by decide +kernel
theorem dX5_collect_63 : decode cX5_collect 63 = .ok (.lxor, 1) := by decide +kernel
theorem dX5_collect_64 : decode cX5_collect 64 = .ok (.aload_n 0, 1) := by decide +kernel
theorem dX5_collect_65 : decode cX5_collect 65 = .ok (.getfield 28, 3) := by decide +kernel
theorem dX5_collect_68 : decode cX5_collect 68 = .ok (.land, 1) := by decide +kernel
theorem dX5_collect_69 : decode cX5_collect 69 = .ok (.lconst 0, 1) := by decide +kernel
theorem dX5_collect_70 : decode cX5_collect 70 = .ok (.lcmp, 1) := by decide +kernel
theorem dX5_collect_71 : decode cX5_collect 71 = .ok (.ifCond .eq 15, 3) := by decide +kernel
theorem dX5_collect_74 : decode cX5_collect 74 = .ok (.aload_n 0, 1) := by decide +kernel
theorem dX5_collect_75 : decode cX5_collect 75 = .ok (.dup, 1) := by decide +kernel
theorem dX5_collect_76 : decode cX5_collect 76 = .ok (.getfield 19, 3) := by decide +kernel
theorem dX5_collect_79 : decode cX5_collect 79 = .ok (.lconst 1, 1) := by decide +kernel
theorem dX5_collect_80 : decode cX5_collect 80 = .ok (.iload_n 2, 1) := by decide +kernel
theorem dX5_collect_81 : decode cX5_collect 81 = .ok (.lshl, 1) := by decide +kernel
theorem dX5_collect_82 : decode cX5_collect 82 = .ok (.lor, 1) := by decide +kernel
theorem dX5_collect_83 : decode cX5_collect 83 = .ok (.putfield 19, 3) := by decide +kernel
theorem dX5_collect_86 : decode cX5_collect 86 = .ok (.iinc 2 1, 3) := by decide +kernel
theorem dX5_collect_89 : decode cX5_collect 89 = .ok (.goto (-71), 3) := by decide +kernel
theorem dX5_collect_9 : decode cX5_collect 9 = .ok (.invokestatic 99, 3) := by decide +kernel
theorem dX5_collect_92 : decode cX5_collect 92 = .ok (.return_, 1) := by decide +kernel
theorem dX5_fillSources_0 : decode cX5_fillSources 0 = .ok (.iconst 0, 1) := by decide +kernel
theorem dX5_fillSources_1 : decode cX5_fillSources 1 = .ok (.istore 4, 2) := by decide +kernel
theorem dX5_fillSources_12 : decode cX5_fillSources 12 = .ok (.if_icmp .ge 70, 3) := by decide +kernel
theorem dX5_fillSources_15 : decode cX5_fillSources 15 = .ok (.aload_n 1, 1) := by decide +kernel
theorem dX5_fillSources_16 : decode cX5_fillSources 16 = .ok (.iload 5, 2) := by decide +kernel
theorem dX5_fillSources_18 : decode cX5_fillSources 18 = .ok (.invokevirtual 51, 3) := by decide +kernel
theorem dX5_fillSources_21 : decode cX5_fillSources 21 = .ok (.ifCond .ne 6, 3) := by decide +kernel
theorem dX5_fillSources_24 : decode cX5_fillSources 24 = .ok (.goto 52, 3) := by decide +kernel
theorem dX5_fillSources_27 : decode cX5_fillSources 27 = .ok (.aload_n 2, 1) := by decide +kernel
theorem dX5_fillSources_28 : decode cX5_fillSources 28 = .ok (.iload 5, 2) := by decide +kernel
theorem dX5_fillSources_3 : decode cX5_fillSources 3 = .ok (.iconst 0, 1) := by decide +kernel
theorem dX5_fillSources_30 : decode cX5_fillSources 30 = .ok (.iaload, 1) := by decide +kernel
theorem dX5_fillSources_31 : decode cX5_fillSources 31 = .ok (.iconst 2, 1) := by decide +kernel
theorem dX5_fillSources_32 : decode cX5_fillSources 32 = .ok (.if_icmp .lt 22, 3) := by decide +kernel
theorem dX5_fillSources_35 : decode cX5_fillSources 35 = .ok (.aload_n 0, 1) := by decide +kernel
theorem dX5_fillSources_36 : decode cX5_fillSources 36 = .ok (.getfield 9, 3) := by decide +kernel
theorem dX5_fillSources_39 : decode cX5_fillSources 39 = .ok (.iload 5, 2) := by decide +kernel
theorem dX5_fillSources_4 : decode cX5_fillSources 4 = .ok (.istore 5, 2) := by decide +kernel
theorem dX5_fillSources_41 : decode cX5_fillSources 41 = .ok (.iload 4, 2) := by decide +kernel
theorem dX5_fillSources_43 : decode cX5_fillSources 43 = .ok (.iload_n 3, 1) := by decide +kernel
theorem dX5_fillSources_44 : decode cX5_fillSources 44 = .ok (.invokestatic 55, 3) := by decide +kernel
theorem dX5_fillSources_47 : decode cX5_fillSources 47 = .ok (.lastore, 1) := by decide +kernel
theorem dX5_fillSources_48 : decode cX5_fillSources 48 = .ok (.iinc 4 1, 3) := by decide +kernel
theorem dX5_fillSources_51 : decode cX5_fillSources 51 = .ok (.goto 25, 3) := by decide +kernel
theorem dX5_fillSources_54 : decode cX5_fillSources 54 = .ok (.aload_n 0, 1) := by decide +kernel
theorem dX5_fillSources_55 : decode cX5_fillSources 55 = .ok (.getfield 9, 3) := by decide +kernel
theorem dX5_fillSources_58 : decode cX5_fillSources 58 = .ok (.iload 5, 2) := by decide +kernel
theorem dX5_fillSources_6 : decode cX5_fillSources 6 = .ok (.iload 5, 2) := by decide +kernel
theorem dX5_fillSources_60 : decode cX5_fillSources 60 = .ok (.aload_n 2, 1) := by decide +kernel
theorem dX5_fillSources_61 : decode cX5_fillSources 61 = .ok (.iload 5, 2) := by decide +kernel
theorem dX5_fillSources_63 : decode cX5_fillSources 63 = .ok (.iaload, 1) := by decide +kernel
theorem dX5_fillSources_64 : decode cX5_fillSources 64 = .ok (.iconst 1, 1) := by decide +kernel
theorem dX5_fillSources_65 : decode cX5_fillSources 65 = .ok (.if_icmp .ne 9, 3) := by decide +kernel
theorem dX5_fillSources_68 : decode cX5_fillSources 68 = .ok (.ldc2_w 26, 3) := by decide +kernel
theorem dX5_fillSources_71 : decode cX5_fillSources 71 = .ok (.goto 4, 3) := by decide +kernel
theorem dX5_fillSources_74 : decode cX5_fillSources 74 = .ok (.lconst 0, 1) := by decide +kernel
theorem dX5_fillSources_75 : decode cX5_fillSources 75 = .ok (.lastore, 1) := by decide +kernel
theorem dX5_fillSources_76 : decode cX5_fillSources 76 = .ok (.iinc 5 1, 3) := by decide +kernel
theorem dX5_fillSources_79 : decode cX5_fillSources 79 = .ok (.goto (-73), 3) := by decide +kernel
theorem dX5_fillSources_8 : decode cX5_fillSources 8 = .ok (.aload_n 1, 1) := by decide +kernel
theorem dX5_fillSources_82 : decode cX5_fillSources 82 = .ok (.return_, 1) := by decide +kernel
theorem dX5_fillSources_9 : decode cX5_fillSources 9 = .ok (.getfield 46, 3) := by decide +kernel
theorem dX5_followOthers_0 : decode cX5_followOthers 0 = .ok (.iconst 0, 1) := by decide +kernel
theorem dX5_followOthers_1 : decode cX5_followOthers 1 = .ok (.istore_n 2, 1) := by decide +kernel
theorem dX5_followOthers_10 : decode cX5_followOthers 10 = .ok (.aload_n 1, 1) := by decide +kernel
theorem dX5_followOthers_11 : decode cX5_followOthers 11 = .ok (.getfield 62, 3) := by decide +kernel
theorem dX5_followOthers_14 : decode cX5_followOthers 14 = .ok (.iload_n 2, 1) := by decide +kernel
theorem dX5_followOthers_15 : decode cX5_followOthers 15 = .ok (.iaload, 1) := by decide +kernel
theorem dX5_followOthers_16 : decode cX5_followOthers 16 = .ok (.istore_n 3, 1) := by decide +kernel
theorem dX5_followOthers_17 : decode cX5_followOthers 17 = .ok (.aload_n 1, 1) := by decide +kernel
theorem dX5_followOthers_18 : decode cX5_followOthers 18 = .ok (.getfield 66, 3) := by decide +kernel
theorem dX5_followOthers_2 : decode cX5_followOthers 2 = .ok (.iload_n 2, 1) := by decide +kernel
theorem dX5_followOthers_21 : decode cX5_followOthers 21 = .ok (.iload_n 3, 1) := by decide +kernel
theorem dX5_followOthers_22 : decode cX5_followOthers 22 = .ok (.iaload, 1) := by decide +kernel
theorem dX5_followOthers_23 : decode cX5_followOthers 23 = .ok (.iconst 2, 1) := by decide +kernel
theorem dX5_followOthers_24 : decode cX5_followOthers 24 = .ok (.if_icmp .ne 18, 3) := by decide +kernel
theorem dX5_followOthers_27 : decode cX5_followOthers 27 = .ok (.aload_n 0, 1) := by decide +kernel
theorem dX5_followOthers_28 : decode cX5_followOthers 28 = .ok (.getfield 9, 3) := by decide +kernel
theorem dX5_followOthers_3 : decode cX5_followOthers 3 = .ok (.aload_n 1, 1) := by decide +kernel
theorem dX5_followOthers_31 : decode cX5_followOthers 31 = .ok (.iload_n 3, 1) := by decide +kernel
theorem dX5_followOthers_32 : decode cX5_followOthers 32 = .ok (.aload_n 0, 1) := by decide +kernel
theorem dX5_followOthers_33 : decode cX5_followOthers 33 = .ok (.aload_n 1, 1) := by decide +kernel
theorem dX5_followOthers_34 : decode cX5_followOthers 34 = .ok (.iload_n 3, 1) := by decide +kernel
theorem dX5_followOthers_35 : decode cX5_followOthers 35 = .ok (.invokevirtual 69, 3) := by decide +kernel
theorem dX5_followOthers_38 : decode cX5_followOthers 38 = .ok (.lastore, 1) := by decide +kernel
theorem dX5_followOthers_39 : decode cX5_followOthers 39 = .ok (.goto 25, 3) := by decide +kernel
theorem dX5_followOthers_4 : decode cX5_followOthers 4 = .ok (.getfield 46, 3) := by decide +kernel
theorem dX5_followOthers_42 : decode cX5_followOthers 42 = .ok (.aload_n 1, 1) := by decide +kernel
theorem dX5_followOthers_43 : decode cX5_followOthers 43 = .ok (.getfield 66, 3) := by decide +kernel
theorem dX5_followOthers_46 : decode cX5_followOthers 46 = .ok (.iload_n 3, 1) := by decide +kernel
theorem dX5_followOthers_47 : decode cX5_followOthers 47 = .ok (.iaload, 1) := by decide +kernel
theorem dX5_followOthers_48 : decode cX5_followOthers 48 = .ok (.iconst 1, 1) := by decide +kernel
theorem dX5_followOthers_49 : decode cX5_followOthers 49 = .ok (.if_icmp .ne 15, 3) := by decide +kernel
theorem dX5_followOthers_52 : decode cX5_followOthers 52 = .ok (.aload_n 0, 1) := by decide +kernel
theorem dX5_followOthers_53 : decode cX5_followOthers 53 = .ok (.getfield 9, 3) := by decide +kernel
theorem dX5_followOthers_56 : decode cX5_followOthers 56 = .ok (.iload_n 3, 1) := by decide +kernel
theorem dX5_followOthers_57 : decode cX5_followOthers 57 = .ok (.aload_n 0, 1) := by decide +kernel
theorem dX5_followOthers_58 : decode cX5_followOthers 58 = .ok (.aload_n 1, 1) := by decide +kernel
theorem dX5_followOthers_59 : decode cX5_followOthers 59 = .ok (.iload_n 3, 1) := by decide +kernel
theorem dX5_followOthers_60 : decode cX5_followOthers 60 = .ok (.invokevirtual 73, 3) := by decide +kernel
theorem dX5_followOthers_63 : decode cX5_followOthers 63 = .ok (.lastore, 1) := by decide +kernel
theorem dX5_followOthers_64 : decode cX5_followOthers 64 = .ok (.iinc 2 1, 3) := by decide +kernel
theorem dX5_followOthers_67 : decode cX5_followOthers 67 = .ok (.goto (-65), 3) := by decide +kernel
theorem dX5_followOthers_7 : decode cX5_followOthers 7 = .ok (.if_icmp .ge 63, 3) := by decide +kernel
theorem dX5_followOthers_70 : decode cX5_followOthers 70 = .ok (.return_, 1) := by decide +kernel
theorem dX5_freeRow_0 : decode cX5_freeRow 0 = .ok (.iload_n 0, 1) := by decide +kernel
theorem dX5_freeRow_1 : decode cX5_freeRow 1 = .ok (.getstatic 59, 3) := by decide +kernel
theorem dX5_freeRow_11 : decode cX5_freeRow 11 = .ok (.iload_n 0, 1) := by decide +kernel
theorem dX5_freeRow_12 : decode cX5_freeRow 12 = .ok (.laload, 1) := by decide +kernel
theorem dX5_freeRow_13 : decode cX5_freeRow 13 = .ok (.lreturn, 1) := by decide +kernel
theorem dX5_freeRow_14 : decode cX5_freeRow 14 = .ok (.iload_n 1, 1) := by decide +kernel
theorem dX5_freeRow_15 : decode cX5_freeRow 15 = .ok (.iload_n 0, 1) := by decide +kernel
theorem dX5_freeRow_16 : decode cX5_freeRow 16 = .ok (.bipush 6, 2) := by decide +kernel
theorem dX5_freeRow_18 : decode cX5_freeRow 18 = .ok (.isub, 1) := by decide +kernel
theorem dX5_freeRow_19 : decode cX5_freeRow 19 = .ok (.ishr, 1) := by decide +kernel
theorem dX5_freeRow_20 : decode cX5_freeRow 20 = .ok (.iconst 1, 1) := by decide +kernel
theorem dX5_freeRow_21 : decode cX5_freeRow 21 = .ok (.iand, 1) := by decide +kernel
theorem dX5_freeRow_22 : decode cX5_freeRow 22 = .ok (.iconst 1, 1) := by decide +kernel
theorem dX5_freeRow_23 : decode cX5_freeRow 23 = .ok (.if_icmp .ne 9, 3) := by decide +kernel
theorem dX5_freeRow_26 : decode cX5_freeRow 26 = .ok (.ldc2_w 26, 3) := by decide +kernel
theorem dX5_freeRow_29 : decode cX5_freeRow 29 = .ok (.goto 4, 3) := by decide +kernel
theorem dX5_freeRow_32 : decode cX5_freeRow 32 = .ok (.lconst 0, 1) := by decide +kernel
theorem dX5_freeRow_33 : decode cX5_freeRow 33 = .ok (.lreturn, 1) := by decide +kernel
theorem dX5_freeRow_4 : decode cX5_freeRow 4 = .ok (.arraylength, 1) := by decide +kernel
theorem dX5_freeRow_5 : decode cX5_freeRow 5 = .ok (.if_icmp .ge 9, 3) := by decide +kernel
theorem dX5_freeRow_8 : decode cX5_freeRow 8 = .ok (.getstatic 59, 3) := by decide +kernel
theorem dX5_gateRow_0 : decode cX5_gateRow 0 = .ok (.aload_n 1, 1) := by decide +kernel
theorem dX5_gateRow_1 : decode cX5_gateRow 1 = .ok (.getfield 76, 3) := by decide +kernel
theorem dX5_gateRow_100 : decode cX5_gateRow 100 = .ok (.iinc 7 1, 3) := by decide +kernel
theorem dX5_gateRow_103 : decode cX5_gateRow 103 = .ok (.goto (-33), 3) := by decide +kernel
theorem dX5_gateRow_106 : decode cX5_gateRow 106 = .ok (.iload_n 3, 1) := by decide +kernel
theorem dX5_gateRow_107 : decode cX5_gateRow 107 = .ok (.invokestatic 93, 3) := by decide +kernel
theorem dX5_gateRow_11 : decode cX5_gateRow 11 = .ok (.aload_n 1, 1) := by decide +kernel
theorem dX5_gateRow_110 : decode cX5_gateRow 110 = .ok (.ifCond .eq 12, 3) := by decide +kernel
theorem dX5_gateRow_113 : decode cX5_gateRow 113 = .ok (.lload 4, 2) := by decide +kernel
theorem dX5_gateRow_115 : decode cX5_gateRow 115 = .ok (.ldc2_w 26, 3) := by decide +kernel
theorem dX5_gateRow_118 : decode cX5_gateRow 118 = .ok (.lxor, 1) := by decide +kernel
theorem dX5_gateRow_119 : decode cX5_gateRow 119 = .ok (.goto 5, 3) := by decide +kernel
theorem dX5_gateRow_12 : decode cX5_gateRow 12 = .ok (.iload_n 2, 1) := by decide +kernel
theorem dX5_gateRow_122 : decode cX5_gateRow 122 = .ok (.lload 4, 2) := by decide +kernel
theorem dX5_gateRow_124 : decode cX5_gateRow 124 = .ok (.lreturn, 1) := by decide +kernel
theorem dX5_gateRow_13 : decode cX5_gateRow 13 = .ok (.iconst 0, 1) := by decide +kernel
theorem dX5_gateRow_14 : decode cX5_gateRow 14 = .ok (.invokevirtual 79, 3) := by decide +kernel
theorem dX5_gateRow_17 : decode cX5_gateRow 17 = .ok (.laload, 1) := by decide +kernel
theorem dX5_gateRow_18 : decode cX5_gateRow 18 = .ok (.lstore 4, 2) := by decide +kernel
theorem dX5_gateRow_20 : decode cX5_gateRow 20 = .ok (.iload_n 3, 1) := by decide +kernel
theorem dX5_gateRow_21 : decode cX5_gateRow 21 = .ok (.bipush 8, 2) := by decide +kernel
theorem dX5_gateRow_23 : decode cX5_gateRow 23 = .ok (.if_icmp .ne 37, 3) := by decide +kernel
theorem dX5_gateRow_26 : decode cX5_gateRow 26 = .ok (.lload 4, 2) := by decide +kernel
theorem dX5_gateRow_28 : decode cX5_gateRow 28 = .ok (.ldc2_w 26, 3) := by decide +kernel
theorem dX5_gateRow_31 : decode cX5_gateRow 31 = .ok (.lxor, 1) := by decide +kernel
theorem dX5_gateRow_32 : decode cX5_gateRow 32 = .ok (.aload_n 0, 1) := by decide +kernel
theorem dX5_gateRow_33 : decode cX5_gateRow 33 = .ok (.getfield 9, 3) := by decide +kernel
theorem dX5_gateRow_36 : decode cX5_gateRow 36 = .ok (.aload_n 1, 1) := by decide +kernel
theorem dX5_gateRow_37 : decode cX5_gateRow 37 = .ok (.iload_n 2, 1) := by decide +kernel
theorem dX5_gateRow_38 : decode cX5_gateRow 38 = .ok (.iconst 1, 1) := by decide +kernel
theorem dX5_gateRow_39 : decode cX5_gateRow 39 = .ok (.invokevirtual 79, 3) := by decide +kernel
theorem dX5_gateRow_4 : decode cX5_gateRow 4 = .ok (.iload_n 2, 1) := by decide +kernel
theorem dX5_gateRow_42 : decode cX5_gateRow 42 = .ok (.laload, 1) := by decide +kernel
theorem dX5_gateRow_43 : decode cX5_gateRow 43 = .ok (.land, 1) := by decide +kernel
theorem dX5_gateRow_44 : decode cX5_gateRow 44 = .ok (.lload 4, 2) := by decide +kernel
theorem dX5_gateRow_46 : decode cX5_gateRow 46 = .ok (.aload_n 0, 1) := by decide +kernel
theorem dX5_gateRow_47 : decode cX5_gateRow 47 = .ok (.getfield 9, 3) := by decide +kernel
theorem dX5_gateRow_5 : decode cX5_gateRow 5 = .ok (.iaload, 1) := by decide +kernel
theorem dX5_gateRow_50 : decode cX5_gateRow 50 = .ok (.aload_n 1, 1) := by decide +kernel
theorem dX5_gateRow_51 : decode cX5_gateRow 51 = .ok (.iload_n 2, 1) := by decide +kernel
theorem dX5_gateRow_52 : decode cX5_gateRow 52 = .ok (.iconst 2, 1) := by decide +kernel
theorem dX5_gateRow_53 : decode cX5_gateRow 53 = .ok (.invokevirtual 79, 3) := by decide +kernel
theorem dX5_gateRow_56 : decode cX5_gateRow 56 = .ok (.laload, 1) := by decide +kernel
theorem dX5_gateRow_57 : decode cX5_gateRow 57 = .ok (.land, 1) := by decide +kernel
theorem dX5_gateRow_58 : decode cX5_gateRow 58 = .ok (.lor, 1) := by decide +kernel
theorem dX5_gateRow_59 : decode cX5_gateRow 59 = .ok (.lreturn, 1) := by decide +kernel
theorem dX5_gateRow_6 : decode cX5_gateRow 6 = .ok (.istore_n 3, 1) := by decide +kernel
theorem dX5_gateRow_60 : decode cX5_gateRow 60 = .ok (.aload_n 1, 1) := by decide +kernel
theorem dX5_gateRow_61 : decode cX5_gateRow 61 = .ok (.iload_n 2, 1) := by decide +kernel
theorem dX5_gateRow_62 : decode cX5_gateRow 62 = .ok (.invokevirtual 85, 3) := by decide +kernel
theorem dX5_gateRow_65 : decode cX5_gateRow 65 = .ok (.istore 6, 2) := by decide +kernel
theorem dX5_gateRow_67 : decode cX5_gateRow 67 = .ok (.iconst 1, 1) := by decide +kernel
theorem dX5_gateRow_68 : decode cX5_gateRow 68 = .ok (.istore 7, 2) := by decide +kernel
theorem dX5_gateRow_7 : decode cX5_gateRow 7 = .ok (.aload_n 0, 1) := by decide +kernel
theorem dX5_gateRow_70 : decode cX5_gateRow 70 = .ok (.iload 7, 2) := by decide +kernel
theorem dX5_gateRow_72 : decode cX5_gateRow 72 = .ok (.iload 6, 2) := by decide +kernel
theorem dX5_gateRow_74 : decode cX5_gateRow 74 = .ok (.if_icmp .ge 32, 3) := by decide +kernel
theorem dX5_gateRow_77 : decode cX5_gateRow 77 = .ok (.iload_n 3, 1) := by decide +kernel
theorem dX5_gateRow_78 : decode cX5_gateRow 78 = .ok (.bipush (-2), 2) := by decide +kernel
theorem dX5_gateRow_8 : decode cX5_gateRow 8 = .ok (.getfield 9, 3) := by decide +kernel
theorem dX5_gateRow_80 : decode cX5_gateRow 80 = .ok (.iand, 1) := by decide +kernel
theorem dX5_gateRow_81 : decode cX5_gateRow 81 = .ok (.lload 4, 2) := by decide +kernel
theorem dX5_gateRow_83 : decode cX5_gateRow 83 = .ok (.aload_n 0, 1) := by decide +kernel
theorem dX5_gateRow_84 : decode cX5_gateRow 84 = .ok (.getfield 9, 3) := by decide +kernel
theorem dX5_gateRow_87 : decode cX5_gateRow 87 = .ok (.aload_n 1, 1) := by decide +kernel
theorem dX5_gateRow_88 : decode cX5_gateRow 88 = .ok (.iload_n 2, 1) := by decide +kernel
theorem dX5_gateRow_89 : decode cX5_gateRow 89 = .ok (.iload 7, 2) := by decide +kernel
theorem dX5_gateRow_91 : decode cX5_gateRow 91 = .ok (.invokevirtual 79, 3) := by decide +kernel
theorem dX5_gateRow_94 : decode cX5_gateRow 94 = .ok (.laload, 1) := by decide +kernel
theorem dX5_gateRow_95 : decode cX5_gateRow 95 = .ok (.invokestatic 89, 3) := by decide +kernel
theorem dX5_gateRow_98 : decode cX5_gateRow 98 = .ok (.lstore 4, 2) := by decide +kernel
theorem dX5_goThrough_0 : decode cX5_goThrough 0 = .ok (.aload_n 0, 1) := by decide +kernel
theorem dX5_goThrough_1 : decode cX5_goThrough 1 = .ok (.iconst 0, 1) := by decide +kernel
theorem dX5_goThrough_10 : decode cX5_goThrough 10 = .ok (.aload_n 0, 1) := by decide +kernel
theorem dX5_goThrough_11 : decode cX5_goThrough 11 = .ok (.lconst 0, 1) := by decide +kernel
theorem dX5_goThrough_12 : decode cX5_goThrough 12 = .ok (.putfield 23, 3) := by decide +kernel
theorem dX5_goThrough_15 : decode cX5_goThrough 15 = .ok (.iload_n 3, 1) := by decide +kernel
theorem dX5_goThrough_16 : decode cX5_goThrough 16 = .ok (.bipush 6, 2) := by decide +kernel
theorem dX5_goThrough_18 : decode cX5_goThrough 18 = .ok (.if_icmp .le 12, 3) := by decide +kernel
theorem dX5_goThrough_2 : decode cX5_goThrough 2 = .ok (.putfield 15, 3) := by decide +kernel
theorem dX5_goThrough_21 : decode cX5_goThrough 21 = .ok (.iconst 1, 1) := by decide +kernel
theorem dX5_goThrough_22 : decode cX5_goThrough 22 = .ok (.iload_n 3, 1) := by decide +kernel
theorem dX5_goThrough_23 : decode cX5_goThrough 23 = .ok (.bipush 6, 2) := by decide +kernel
theorem dX5_goThrough_25 : decode cX5_goThrough 25 = .ok (.isub, 1) := by decide +kernel
theorem dX5_goThrough_26 : decode cX5_goThrough 26 = .ok (.ishl, 1) := by decide +kernel
theorem dX5_goThrough_27 : decode cX5_goThrough 27 = .ok (.goto 4, 3) := by decide +kernel
theorem dX5_goThrough_30 : decode cX5_goThrough 30 = .ok (.iconst 1, 1) := by decide +kernel
theorem dX5_goThrough_31 : decode cX5_goThrough 31 = .ok (.istore 4, 2) := by decide +kernel
theorem dX5_goThrough_33 : decode cX5_goThrough 33 = .ok (.iload_n 3, 1) := by decide +kernel
theorem dX5_goThrough_34 : decode cX5_goThrough 34 = .ok (.bipush 6, 2) := by decide +kernel
theorem dX5_goThrough_36 : decode cX5_goThrough 36 = .ok (.if_icmp .lt 9, 3) := by decide +kernel
theorem dX5_goThrough_39 : decode cX5_goThrough 39 = .ok (.ldc2_w 26, 3) := by decide +kernel
theorem dX5_goThrough_42 : decode cX5_goThrough 42 = .ok (.goto 10, 3) := by decide +kernel
theorem dX5_goThrough_45 : decode cX5_goThrough 45 = .ok (.lconst 1, 1) := by decide +kernel
theorem dX5_goThrough_46 : decode cX5_goThrough 46 = .ok (.iconst 1, 1) := by decide +kernel
theorem dX5_goThrough_47 : decode cX5_goThrough 47 = .ok (.iload_n 3, 1) := by decide +kernel
theorem dX5_goThrough_48 : decode cX5_goThrough 48 = .ok (.ishl, 1) := by decide +kernel
theorem dX5_goThrough_49 : decode cX5_goThrough 49 = .ok (.lshl, 1) := by decide +kernel
theorem dX5_goThrough_5 : decode cX5_goThrough 5 = .ok (.aload_n 0, 1) := by decide +kernel
theorem dX5_goThrough_50 : decode cX5_goThrough 50 = .ok (.lconst 1, 1) := by decide +kernel
theorem dX5_goThrough_51 : decode cX5_goThrough 51 = .ok (.lsub, 1) := by decide +kernel
theorem dX5_goThrough_52 : decode cX5_goThrough 52 = .ok (.lstore 5, 2) := by decide +kernel
theorem dX5_goThrough_54 : decode cX5_goThrough 54 = .ok (.iconst 0, 1) := by decide +kernel
theorem dX5_goThrough_55 : decode cX5_goThrough 55 = .ok (.istore 7, 2) := by decide +kernel
theorem dX5_goThrough_57 : decode cX5_goThrough 57 = .ok (.iload 7, 2) := by decide +kernel
theorem dX5_goThrough_59 : decode cX5_goThrough 59 = .ok (.iload 4, 2) := by decide +kernel
theorem dX5_goThrough_6 : decode cX5_goThrough 6 = .ok (.lconst 0, 1) := by decide +kernel
theorem dX5_goThrough_61 : decode cX5_goThrough 61 = .ok (.if_icmp .ge 33, 3) := by decide +kernel
theorem dX5_goThrough_64 : decode cX5_goThrough 64 = .ok (.aload_n 0, 1) := by decide +kernel
theorem dX5_goThrough_65 : decode cX5_goThrough 65 = .ok (.lload 5, 2) := by decide +kernel
theorem dX5_goThrough_67 : decode cX5_goThrough 67 = .ok (.putfield 28, 3) := by decide +kernel
theorem dX5_goThrough_7 : decode cX5_goThrough 7 = .ok (.putfield 19, 3) := by decide +kernel
theorem dX5_goThrough_70 : decode cX5_goThrough 70 = .ok (.aload_n 0, 1) := by decide +kernel
theorem dX5_goThrough_71 : decode cX5_goThrough 71 = .ok (.aload_n 1, 1) := by decide +kernel
theorem dX5_goThrough_72 : decode cX5_goThrough 72 = .ok (.aload_n 2, 1) := by decide +kernel
theorem dX5_goThrough_73 : decode cX5_goThrough 73 = .ok (.iload 7, 2) := by decide +kernel
theorem dX5_goThrough_75 : decode cX5_goThrough 75 = .ok (.invokevirtual 31, 3) := by decide +kernel
theorem dX5_goThrough_78 : decode cX5_goThrough 78 = .ok (.aload_n 0, 1) := by decide +kernel
theorem dX5_goThrough_79 : decode cX5_goThrough 79 = .ok (.aload_n 1, 1) := by decide +kernel
theorem dX5_goThrough_80 : decode cX5_goThrough 80 = .ok (.invokevirtual 35, 3) := by decide +kernel
theorem dX5_goThrough_83 : decode cX5_goThrough 83 = .ok (.aload_n 0, 1) := by decide +kernel
theorem dX5_goThrough_84 : decode cX5_goThrough 84 = .ok (.aload_n 1, 1) := by decide +kernel
theorem dX5_goThrough_85 : decode cX5_goThrough 85 = .ok (.invokevirtual 39, 3) := by decide +kernel
theorem dX5_goThrough_88 : decode cX5_goThrough 88 = .ok (.iinc 7 1, 3) := by decide +kernel
theorem dX5_goThrough_91 : decode cX5_goThrough 91 = .ok (.goto (-34), 3) := by decide +kernel
theorem dX5_goThrough_94 : decode cX5_goThrough 94 = .ok (.return_, 1) := by decide +kernel
theorem dX5_isEver_0 : decode cX5_isEver 0 = .ok (.iload_n 2, 1) := by decide +kernel
theorem dX5_isEver_1 : decode cX5_isEver 1 = .ok (.ifCond .ne 10, 3) := by decide +kernel
theorem dX5_isEver_11 : decode cX5_isEver 11 = .ok (.aload_n 0, 1) := by decide +kernel
theorem dX5_isEver_12 : decode cX5_isEver 12 = .ok (.getfield 23, 3) := by decide +kernel
theorem dX5_isEver_15 : decode cX5_isEver 15 = .ok (.iload_n 1, 1) := by decide +kernel
theorem dX5_isEver_16 : decode cX5_isEver 16 = .ok (.lushr, 1) := by decide +kernel
theorem dX5_isEver_17 : decode cX5_isEver 17 = .ok (.lconst 1, 1) := by decide +kernel
theorem dX5_isEver_18 : decode cX5_isEver 18 = .ok (.land, 1) := by decide +kernel
theorem dX5_isEver_19 : decode cX5_isEver 19 = .ok (.lconst 1, 1) := by decide +kernel
theorem dX5_isEver_20 : decode cX5_isEver 20 = .ok (.lcmp, 1) := by decide +kernel
theorem dX5_isEver_21 : decode cX5_isEver 21 = .ok (.ifCond .ne 7, 3) := by decide +kernel
theorem dX5_isEver_24 : decode cX5_isEver 24 = .ok (.iconst 1, 1) := by decide +kernel
theorem dX5_isEver_25 : decode cX5_isEver 25 = .ok (.goto 4, 3) := by decide +kernel
theorem dX5_isEver_28 : decode cX5_isEver 28 = .ok (.iconst 0, 1) := by decide +kernel
theorem dX5_isEver_29 : decode cX5_isEver 29 = .ok (.ireturn, 1) := by decide +kernel
theorem dX5_isEver_4 : decode cX5_isEver 4 = .ok (.aload_n 0, 1) := by decide +kernel
theorem dX5_isEver_5 : decode cX5_isEver 5 = .ok (.getfield 19, 3) := by decide +kernel
theorem dX5_isEver_8 : decode cX5_isEver 8 = .ok (.goto 7, 3) := by decide +kernel
theorem dX5_join_0 : decode cX5_join 0 = .ok (.iload_n 0, 1) := by decide +kernel
theorem dX5_join_1 : decode cX5_join 1 = .ok (.lookupswitch 35 #[(2, 27), (4, 31)], 27) := by decide +kernel
theorem dX5_join_28 : decode cX5_join 28 = .ok (.lload_n 1, 1) := by decide +kernel
theorem dX5_join_29 : decode cX5_join 29 = .ok (.lload_n 3, 1) := by decide +kernel
theorem dX5_join_30 : decode cX5_join 30 = .ok (.lor, 1) := by decide +kernel
theorem dX5_join_31 : decode cX5_join 31 = .ok (.lreturn, 1) := by decide +kernel
theorem dX5_join_32 : decode cX5_join 32 = .ok (.lload_n 1, 1) := by decide +kernel
theorem dX5_join_33 : decode cX5_join 33 = .ok (.lload_n 3, 1) := by decide +kernel
theorem dX5_join_34 : decode cX5_join 34 = .ok (.lxor, 1) := by decide +kernel
theorem dX5_join_35 : decode cX5_join 35 = .ok (.lreturn, 1) := by decide +kernel
theorem dX5_join_36 : decode cX5_join 36 = .ok (.lload_n 1, 1) := by decide +kernel
theorem dX5_join_37 : decode cX5_join 37 = .ok (.lload_n 3, 1) := by decide +kernel
theorem dX5_join_38 : decode cX5_join 38 = .ok (.land, 1) := by decide +kernel
theorem dX5_join_39 : decode cX5_join 39 = .ok (.lreturn, 1) := by decide +kernel
theorem dX5_sharpValue_0 : decode cX5_sharpValue 0 = .ok (.aload_n 0, 1) := by decide +kernel
theorem dX5_sharpValue_1 : decode cX5_sharpValue 1 = .ok (.getfield 15, 3) := by decide +kernel
theorem dX5_sharpValue_10 : decode cX5_sharpValue 10 = .ok (.iload_n 1, 1) := by decide +kernel
theorem dX5_sharpValue_11 : decode cX5_sharpValue 11 = .ok (.iconst 0, 1) := by decide +kernel
theorem dX5_sharpValue_12 : decode cX5_sharpValue 12 = .ok (.invokevirtual 42, 3) := by decide +kernel
theorem dX5_sharpValue_15 : decode cX5_sharpValue 15 = .ok (.ifCond .eq 18, 3) := by decide +kernel
theorem dX5_sharpValue_18 : decode cX5_sharpValue 18 = .ok (.aload_n 0, 1) := by decide +kernel
theorem dX5_sharpValue_19 : decode cX5_sharpValue 19 = .ok (.iload_n 1, 1) := by decide +kernel
theorem dX5_sharpValue_20 : decode cX5_sharpValue 20 = .ok (.iconst 1, 1) := by decide +kernel
theorem dX5_sharpValue_21 : decode cX5_sharpValue 21 = .ok (.invokevirtual 42, 3) := by decide +kernel
theorem dX5_sharpValue_24 : decode cX5_sharpValue 24 = .ok (.ifCond .eq 7, 3) := by decide +kernel
theorem dX5_sharpValue_27 : decode cX5_sharpValue 27 = .ok (.iconst 2, 1) := by decide +kernel
theorem dX5_sharpValue_28 : decode cX5_sharpValue 28 = .ok (.goto 4, 3) := by decide +kernel
theorem dX5_sharpValue_31 : decode cX5_sharpValue 31 = .ok (.iconst 0, 1) := by decide +kernel
theorem dX5_sharpValue_32 : decode cX5_sharpValue 32 = .ok (.ireturn, 1) := by decide +kernel
theorem dX5_sharpValue_33 : decode cX5_sharpValue 33 = .ok (.iconst 1, 1) := by decide +kernel
theorem dX5_sharpValue_34 : decode cX5_sharpValue 34 = .ok (.ireturn, 1) := by decide +kernel
theorem dX5_sharpValue_4 : decode cX5_sharpValue 4 = .ok (.ifCond .ne 5, 3) := by decide +kernel
theorem dX5_sharpValue_7 : decode cX5_sharpValue 7 = .ok (.iconst 3, 1) := by decide +kernel
theorem dX5_sharpValue_8 : decode cX5_sharpValue 8 = .ok (.ireturn, 1) := by decide +kernel
theorem dX5_sharpValue_9 : decode cX5_sharpValue 9 = .ok (.aload_n 0, 1) := by decide +kernel
theorem dX6_about_0 : decode cX6_about 0 = .ok (.iload_n 1, 1) := by decide +kernel
theorem dX6_about_1 : decode cX6_about 1 = .ok (.tableswitch 117 0 5 #[39, 47, 55, 74, 93, 112], 39) := by decide +kernel
theorem dX6_about_101 : decode cX6_about 101 = .ok (.aload_n 0, 1) := by decide +kernel
theorem dX6_about_102 : decode cX6_about 102 = .ok (.getfield 50, 3) := by decide +kernel
theorem dX6_about_105 : decode cX6_about 105 = .ok (.getfield 161, 3) := by decide +kernel
theorem dX6_about_108 : decode cX6_about 108 = .ok (.goto 4, 3) := by decide +kernel
theorem dX6_about_111 : decode cX6_about 111 = .ok (.iconst (-1), 1) := by decide +kernel
theorem dX6_about_112 : decode cX6_about 112 = .ok (.ireturn, 1) := by decide +kernel
theorem dX6_about_113 : decode cX6_about 113 = .ok (.aload_n 0, 1) := by decide +kernel
theorem dX6_about_114 : decode cX6_about 114 = .ok (.invokevirtual 115, 3) := by decide +kernel
theorem dX6_about_117 : decode cX6_about 117 = .ok (.ireturn, 1) := by decide +kernel
theorem dX6_about_118 : decode cX6_about 118 = .ok (.iconst (-1), 1) := by decide +kernel
theorem dX6_about_119 : decode cX6_about 119 = .ok (.ireturn, 1) := by decide +kernel
theorem dX6_about_40 : decode cX6_about 40 = .ok (.aload_n 0, 1) := by decide +kernel
theorem dX6_about_41 : decode cX6_about 41 = .ok (.getfield 23, 3) := by decide +kernel
theorem dX6_about_44 : decode cX6_about 44 = .ok (.getfield 66, 3) := by decide +kernel
theorem dX6_about_47 : decode cX6_about 47 = .ok (.ireturn, 1) := by decide +kernel
theorem dX6_about_48 : decode cX6_about 48 = .ok (.aload_n 0, 1) := by decide +kernel
theorem dX6_about_49 : decode cX6_about 49 = .ok (.getfield 23, 3) := by decide +kernel
theorem dX6_about_52 : decode cX6_about 52 = .ok (.getfield 152, 3) := by decide +kernel
theorem dX6_about_55 : decode cX6_about 55 = .ok (.ireturn, 1) := by decide +kernel
theorem dX6_about_56 : decode cX6_about 56 = .ok (.aload_n 0, 1) := by decide +kernel
theorem dX6_about_57 : decode cX6_about 57 = .ok (.getfield 69, 3) := by decide +kernel
theorem dX6_about_60 : decode cX6_about 60 = .ok (.ifCond .eq 13, 3) := by decide +kernel
theorem dX6_about_63 : decode cX6_about 63 = .ok (.aload_n 0, 1) := by decide +kernel
theorem dX6_about_64 : decode cX6_about 64 = .ok (.getfield 50, 3) := by decide +kernel
theorem dX6_about_67 : decode cX6_about 67 = .ok (.getfield 155, 3) := by decide +kernel
theorem dX6_about_70 : decode cX6_about 70 = .ok (.goto 4, 3) := by decide +kernel
theorem dX6_about_73 : decode cX6_about 73 = .ok (.iconst (-1), 1) := by decide +kernel
theorem dX6_about_74 : decode cX6_about 74 = .ok (.ireturn, 1) := by decide +kernel
theorem dX6_about_75 : decode cX6_about 75 = .ok (.aload_n 0, 1) := by decide +kernel
theorem dX6_about_76 : decode cX6_about 76 = .ok (.getfield 69, 3) := by decide +kernel
theorem dX6_about_79 : decode cX6_about 79 = .ok (.ifCond .eq 13, 3) := by decide +kernel
theorem dX6_about_82 : decode cX6_about 82 = .ok (.aload_n 0, 1) := by decide +kernel
theorem dX6_about_83 : decode cX6_about 83 = .ok (.getfield 50, 3) := by decide +kernel
theorem dX6_about_86 : decode cX6_about 86 = .ok (.invokevirtual 158, 3) := by decide +kernel
theorem dX6_about_89 : decode cX6_about 89 = .ok (.goto 4, 3) := by decide +kernel
theorem dX6_about_92 : decode cX6_about 92 = .ok (.iconst (-1), 1) := by decide +kernel
theorem dX6_about_93 : decode cX6_about 93 = .ok (.ireturn, 1) := by decide +kernel
theorem dX6_about_94 : decode cX6_about 94 = .ok (.aload_n 0, 1) := by decide +kernel
theorem dX6_about_95 : decode cX6_about 95 = .ok (.getfield 69, 3) := by decide +kernel
theorem dX6_about_98 : decode cX6_about 98 = .ok (.ifCond .eq 13, 3) := by decide +kernel
theorem dX6_addToTape_0 : decode cX6_addToTape 0 = .ok (.bipush 24, 2) := by decide +kernel
theorem dX6_addToTape_11 : decode cX6_addToTape 11 = .ok (.sipush 2000, 3) := by decide +kernel
theorem dX6_addToTape_14 : decode cX6_addToTape 14 = .ok (.if_icmp .ge 32, 3) := by decide +kernel
theorem dX6_addToTape_17 : decode cX6_addToTape 17 = .ok (.aload_n 0, 1) := by decide +kernel
theorem dX6_addToTape_18 : decode cX6_addToTape 18 = .ok (.getfield 9, 3) := by decide +kernel
theorem dX6_addToTape_2 : decode cX6_addToTape 2 = .ok (.istore_n 2, 1) := by decide +kernel
theorem dX6_addToTape_21 : decode cX6_addToTape 21 = .ok (.aload_n 0, 1) := by decide +kernel
theorem dX6_addToTape_22 : decode cX6_addToTape 22 = .ok (.getfield 54, 3) := by decide +kernel
theorem dX6_addToTape_25 : decode cX6_addToTape 25 = .ok (.iload_n 1, 1) := by decide +kernel
theorem dX6_addToTape_26 : decode cX6_addToTape 26 = .ok (.iload_n 2, 1) := by decide +kernel
theorem dX6_addToTape_27 : decode cX6_addToTape 27 = .ok (.iushr, 1) := by decide +kernel
theorem dX6_addToTape_28 : decode cX6_addToTape 28 = .ok (.i2b, 1) := by decide +kernel
theorem dX6_addToTape_29 : decode cX6_addToTape 29 = .ok (.bastore, 1) := by decide +kernel
theorem dX6_addToTape_3 : decode cX6_addToTape 3 = .ok (.iload_n 2, 1) := by decide +kernel
theorem dX6_addToTape_30 : decode cX6_addToTape 30 = .ok (.aload_n 0, 1) := by decide +kernel
theorem dX6_addToTape_31 : decode cX6_addToTape 31 = .ok (.dup, 1) := by decide +kernel
theorem dX6_addToTape_32 : decode cX6_addToTape 32 = .ok (.getfield 54, 3) := by decide +kernel
theorem dX6_addToTape_35 : decode cX6_addToTape 35 = .ok (.iconst 1, 1) := by decide +kernel
theorem dX6_addToTape_36 : decode cX6_addToTape 36 = .ok (.iadd, 1) := by decide +kernel
theorem dX6_addToTape_37 : decode cX6_addToTape 37 = .ok (.putfield 54, 3) := by decide +kernel
theorem dX6_addToTape_4 : decode cX6_addToTape 4 = .ok (.ifCond .lt 42, 3) := by decide +kernel
theorem dX6_addToTape_40 : decode cX6_addToTape 40 = .ok (.iinc 2 (-8), 3) := by decide +kernel
theorem dX6_addToTape_43 : decode cX6_addToTape 43 = .ok (.goto (-40), 3) := by decide +kernel
theorem dX6_addToTape_46 : decode cX6_addToTape 46 = .ok (.return_, 1) := by decide +kernel
theorem dX6_addToTape_7 : decode cX6_addToTape 7 = .ok (.aload_n 0, 1) := by decide +kernel
theorem dX6_addToTape_8 : decode cX6_addToTape 8 = .ok (.getfield 54, 3) := by decide +kernel
theorem dX6_countFree_0 : decode cX6_countFree 0 = .ok (.iconst 0, 1) := by decide +kernel
theorem dX6_countFree_1 : decode cX6_countFree 1 = .ok (.istore_n 1, 1) := by decide +kernel
theorem dX6_countFree_12 : decode cX6_countFree 12 = .ok (.if_icmp .ge 33, 3) := by decide +kernel
theorem dX6_countFree_15 : decode cX6_countFree 15 = .ok (.aload_n 0, 1) := by decide +kernel
theorem dX6_countFree_16 : decode cX6_countFree 16 = .ok (.getfield 23, 3) := by decide +kernel
theorem dX6_countFree_19 : decode cX6_countFree 19 = .ok (.iload_n 2, 1) := by decide +kernel
theorem dX6_countFree_2 : decode cX6_countFree 2 = .ok (.iconst 0, 1) := by decide +kernel
theorem dX6_countFree_20 : decode cX6_countFree 20 = .ok (.invokevirtual 176, 3) := by decide +kernel
theorem dX6_countFree_23 : decode cX6_countFree 23 = .ok (.ifCond .eq 16, 3) := by decide +kernel
theorem dX6_countFree_26 : decode cX6_countFree 26 = .ok (.aload_n 0, 1) := by decide +kernel
theorem dX6_countFree_27 : decode cX6_countFree 27 = .ok (.getfield 30, 3) := by decide +kernel
theorem dX6_countFree_3 : decode cX6_countFree 3 = .ok (.istore_n 2, 1) := by decide +kernel
theorem dX6_countFree_30 : decode cX6_countFree 30 = .ok (.iload_n 2, 1) := by decide +kernel
theorem dX6_countFree_31 : decode cX6_countFree 31 = .ok (.iaload, 1) := by decide +kernel
theorem dX6_countFree_32 : decode cX6_countFree 32 = .ok (.iconst 2, 1) := by decide +kernel
theorem dX6_countFree_33 : decode cX6_countFree 33 = .ok (.if_icmp .lt 6, 3) := by decide +kernel
theorem dX6_countFree_36 : decode cX6_countFree 36 = .ok (.iinc 1 1, 3) := by decide +kernel
theorem dX6_countFree_39 : decode cX6_countFree 39 = .ok (.iinc 2 1, 3) := by decide +kernel
theorem dX6_countFree_4 : decode cX6_countFree 4 = .ok (.iload_n 2, 1) := by decide +kernel
theorem dX6_countFree_42 : decode cX6_countFree 42 = .ok (.goto (-38), 3) := by decide +kernel
theorem dX6_countFree_45 : decode cX6_countFree 45 = .ok (.iload_n 1, 1) := by decide +kernel
theorem dX6_countFree_46 : decode cX6_countFree 46 = .ok (.ireturn, 1) := by decide +kernel
theorem dX6_countFree_5 : decode cX6_countFree 5 = .ok (.aload_n 0, 1) := by decide +kernel
theorem dX6_countFree_6 : decode cX6_countFree 6 = .ok (.getfield 23, 3) := by decide +kernel
theorem dX6_countFree_9 : decode cX6_countFree 9 = .ok (.getfield 66, 3) := by decide +kernel
theorem dX6_end_0 : decode cX6_end 0 = .ok (.iload_n 1, 1) := by decide +kernel
theorem dX6_end_1 : decode cX6_end 1 = .ok (.ifCond .lt 11, 3) := by decide +kernel
theorem dX6_end_12 : decode cX6_end 12 = .ok (.iconst (-1), 1) := by decide +kernel
theorem dX6_end_13 : decode cX6_end 13 = .ok (.ireturn, 1) := by decide +kernel
theorem dX6_end_14 : decode cX6_end 14 = .ok (.aload_n 0, 1) := by decide +kernel
theorem dX6_end_15 : decode cX6_end 15 = .ok (.iload_n 1, 1) := by decide +kernel
theorem dX6_end_16 : decode cX6_end 16 = .ok (.putfield 54, 3) := by decide +kernel
theorem dX6_end_19 : decode cX6_end 19 = .ok (.iload_n 1, 1) := by decide +kernel
theorem dX6_end_20 : decode cX6_end 20 = .ok (.ireturn, 1) := by decide +kernel
theorem dX6_end_4 : decode cX6_end 4 = .ok (.iload_n 1, 1) := by decide +kernel
theorem dX6_end_5 : decode cX6_end 5 = .ok (.aload_n 0, 1) := by decide +kernel
theorem dX6_end_6 : decode cX6_end 6 = .ok (.getfield 54, 3) := by decide +kernel
theorem dX6_end_9 : decode cX6_end 9 = .ok (.if_icmp .le 5, 3) := by decide +kernel
theorem dX6_fault_0 : decode cX6_fault 0 = .ok (.iload_n 1, 1) := by decide +kernel
theorem dX6_fault_1 : decode cX6_fault 1 = .ok (.lookupswitch 43 #[(0, 27), (1, 35)], 27) := by decide +kernel
theorem dX6_fault_28 : decode cX6_fault 28 = .ok (.aload_n 0, 1) := by decide +kernel
theorem dX6_fault_29 : decode cX6_fault 29 = .ok (.getfield 16, 3) := by decide +kernel
theorem dX6_fault_32 : decode cX6_fault 32 = .ok (.getfield 76, 3) := by decide +kernel
theorem dX6_fault_35 : decode cX6_fault 35 = .ok (.ireturn, 1) := by decide +kernel
theorem dX6_fault_36 : decode cX6_fault 36 = .ok (.aload_n 0, 1) := by decide +kernel
theorem dX6_fault_37 : decode cX6_fault 37 = .ok (.getfield 16, 3) := by decide +kernel
theorem dX6_fault_40 : decode cX6_fault 40 = .ok (.getfield 79, 3) := by decide +kernel
theorem dX6_fault_43 : decode cX6_fault 43 = .ok (.ireturn, 1) := by decide +kernel
theorem dX6_fault_44 : decode cX6_fault 44 = .ok (.iconst (-1), 1) := by decide +kernel
theorem dX6_fault_45 : decode cX6_fault 45 = .ok (.ireturn, 1) := by decide +kernel
theorem dX6_feed_0 : decode cX6_feed 0 = .ok (.aload_n 0, 1) := by decide +kernel
theorem dX6_feed_1 : decode cX6_feed 1 = .ok (.getfield 54, 3) := by decide +kernel
theorem dX6_feed_10 : decode cX6_feed 10 = .ok (.if_icmp .le 5, 3) := by decide +kernel
theorem dX6_feed_13 : decode cX6_feed 13 = .ok (.iconst (-1), 1) := by decide +kernel
theorem dX6_feed_14 : decode cX6_feed 14 = .ok (.ireturn, 1) := by decide +kernel
theorem dX6_feed_15 : decode cX6_feed 15 = .ok (.aload_n 0, 1) := by decide +kernel
theorem dX6_feed_16 : decode cX6_feed 16 = .ok (.iload_n 1, 1) := by decide +kernel
theorem dX6_feed_17 : decode cX6_feed 17 = .ok (.invokevirtual 58, 3) := by decide +kernel
theorem dX6_feed_20 : decode cX6_feed 20 = .ok (.aload_n 0, 1) := by decide +kernel
theorem dX6_feed_21 : decode cX6_feed 21 = .ok (.iload_n 2, 1) := by decide +kernel
theorem dX6_feed_22 : decode cX6_feed 22 = .ok (.invokevirtual 58, 3) := by decide +kernel
theorem dX6_feed_25 : decode cX6_feed 25 = .ok (.aload_n 0, 1) := by decide +kernel
theorem dX6_feed_26 : decode cX6_feed 26 = .ok (.iload_n 3, 1) := by decide +kernel
theorem dX6_feed_27 : decode cX6_feed 27 = .ok (.invokevirtual 58, 3) := by decide +kernel
theorem dX6_feed_30 : decode cX6_feed 30 = .ok (.aload_n 0, 1) := by decide +kernel
theorem dX6_feed_31 : decode cX6_feed 31 = .ok (.iload 4, 2) := by decide +kernel
theorem dX6_feed_33 : decode cX6_feed 33 = .ok (.invokevirtual 58, 3) := by decide +kernel
theorem dX6_feed_36 : decode cX6_feed 36 = .ok (.aload_n 0, 1) := by decide +kernel
theorem dX6_feed_37 : decode cX6_feed 37 = .ok (.iload 5, 2) := by decide +kernel
theorem dX6_feed_39 : decode cX6_feed 39 = .ok (.invokevirtual 58, 3) := by decide +kernel
theorem dX6_feed_4 : decode cX6_feed 4 = .ok (.bipush 20, 2) := by decide +kernel
theorem dX6_feed_42 : decode cX6_feed 42 = .ok (.aload_n 0, 1) := by decide +kernel
theorem dX6_feed_43 : decode cX6_feed 43 = .ok (.getfield 54, 3) := by decide +kernel
theorem dX6_feed_46 : decode cX6_feed 46 = .ok (.ireturn, 1) := by decide +kernel
theorem dX6_feed_6 : decode cX6_feed 6 = .ok (.iadd, 1) := by decide +kernel
theorem dX6_feed_7 : decode cX6_feed 7 = .ok (.sipush 2000, 3) := by decide +kernel
theorem dX6_flicker_0 : decode cX6_flicker 0 = .ok (.aload_n 0, 1) := by decide +kernel
theorem dX6_flicker_1 : decode cX6_flicker 1 = .ok (.getfield 23, 3) := by decide +kernel
theorem dX6_flicker_100 : decode cX6_flicker 100 = .ok (.aload_n 0, 1) := by decide +kernel
theorem dX6_flicker_101 : decode cX6_flicker 101 = .ok (.getfield 37, 3) := by decide +kernel
theorem dX6_flicker_104 : decode cX6_flicker 104 = .ok (.iload 4, 2) := by decide +kernel
theorem dX6_flicker_106 : decode cX6_flicker 106 = .ok (.iaload, 1) := by decide +kernel
theorem dX6_flicker_107 : decode cX6_flicker 107 = .ok (.iconst 2, 1) := by decide +kernel
theorem dX6_flicker_108 : decode cX6_flicker 108 = .ok (.if_icmp .ne 13, 3) := by decide +kernel
theorem dX6_flicker_111 : decode cX6_flicker 111 = .ok (.iload_n 3, 1) := by decide +kernel
theorem dX6_flicker_112 : decode cX6_flicker 112 = .ok (.ifCond .ne 6, 3) := by decide +kernel
theorem dX6_flicker_115 : decode cX6_flicker 115 = .ok (.iload 4, 2) := by decide +kernel
theorem dX6_flicker_117 : decode cX6_flicker 117 = .ok (.ireturn, 1) := by decide +kernel
theorem dX6_flicker_118 : decode cX6_flicker 118 = .ok (.iinc 3 (-1), 3) := by decide +kernel
theorem dX6_flicker_12 : decode cX6_flicker 12 = .ok (.aload_n 0, 1) := by decide +kernel
theorem dX6_flicker_121 : decode cX6_flicker 121 = .ok (.iinc 4 1, 3) := by decide +kernel
theorem dX6_flicker_124 : decode cX6_flicker 124 = .ok (.goto (-64), 3) := by decide +kernel
theorem dX6_flicker_127 : decode cX6_flicker 127 = .ok (.iconst (-1), 1) := by decide +kernel
theorem dX6_flicker_128 : decode cX6_flicker 128 = .ok (.ireturn, 1) := by decide +kernel
theorem dX6_flicker_13 : decode cX6_flicker 13 = .ok (.getfield 30, 3) := by decide +kernel
theorem dX6_flicker_16 : decode cX6_flicker 16 = .ok (.iload_n 1, 1) := by decide +kernel
theorem dX6_flicker_17 : decode cX6_flicker 17 = .ok (.iaload, 1) := by decide +kernel
theorem dX6_flicker_18 : decode cX6_flicker 18 = .ok (.iconst 2, 1) := by decide +kernel
theorem dX6_flicker_19 : decode cX6_flicker 19 = .ok (.if_icmp .ge 7, 3) := by decide +kernel
theorem dX6_flicker_22 : decode cX6_flicker 22 = .ok (.iload_n 2, 1) := by decide +kernel
theorem dX6_flicker_23 : decode cX6_flicker 23 = .ok (.ifCond .ge 5, 3) := by decide +kernel
theorem dX6_flicker_26 : decode cX6_flicker 26 = .ok (.iconst (-1), 1) := by decide +kernel
theorem dX6_flicker_27 : decode cX6_flicker 27 = .ok (.ireturn, 1) := by decide +kernel
theorem dX6_flicker_28 : decode cX6_flicker 28 = .ok (.aload_n 0, 1) := by decide +kernel
theorem dX6_flicker_29 : decode cX6_flicker 29 = .ok (.aload_n 0, 1) := by decide +kernel
theorem dX6_flicker_30 : decode cX6_flicker 30 = .ok (.getfield 34, 3) := by decide +kernel
theorem dX6_flicker_33 : decode cX6_flicker 33 = .ok (.iload_n 1, 1) := by decide +kernel
theorem dX6_flicker_34 : decode cX6_flicker 34 = .ok (.iconst 1, 1) := by decide +kernel
theorem dX6_flicker_35 : decode cX6_flicker 35 = .ok (.aload_n 0, 1) := by decide +kernel
theorem dX6_flicker_36 : decode cX6_flicker 36 = .ok (.getfield 30, 3) := by decide +kernel
theorem dX6_flicker_39 : decode cX6_flicker 39 = .ok (.iload_n 1, 1) := by decide +kernel
theorem dX6_flicker_4 : decode cX6_flicker 4 = .ok (.iload_n 1, 1) := by decide +kernel
theorem dX6_flicker_40 : decode cX6_flicker 40 = .ok (.iaload, 1) := by decide +kernel
theorem dX6_flicker_41 : decode cX6_flicker 41 = .ok (.isub, 1) := by decide +kernel
theorem dX6_flicker_42 : decode cX6_flicker 42 = .ok (.invokevirtual 132, 3) := by decide +kernel
theorem dX6_flicker_45 : decode cX6_flicker 45 = .ok (.aload_n 0, 1) := by decide +kernel
theorem dX6_flicker_46 : decode cX6_flicker 46 = .ok (.aload_n 0, 1) := by decide +kernel
theorem dX6_flicker_47 : decode cX6_flicker 47 = .ok (.getfield 37, 3) := by decide +kernel
theorem dX6_flicker_5 : decode cX6_flicker 5 = .ok (.iconst 0, 1) := by decide +kernel
theorem dX6_flicker_50 : decode cX6_flicker 50 = .ok (.iload_n 1, 1) := by decide +kernel
theorem dX6_flicker_51 : decode cX6_flicker 51 = .ok (.iconst 2, 1) := by decide +kernel
theorem dX6_flicker_52 : decode cX6_flicker 52 = .ok (.invokevirtual 132, 3) := by decide +kernel
theorem dX6_flicker_55 : decode cX6_flicker 55 = .ok (.iload_n 2, 1) := by decide +kernel
theorem dX6_flicker_56 : decode cX6_flicker 56 = .ok (.istore_n 3, 1) := by decide +kernel
theorem dX6_flicker_57 : decode cX6_flicker 57 = .ok (.iconst 0, 1) := by decide +kernel
theorem dX6_flicker_58 : decode cX6_flicker 58 = .ok (.istore 4, 2) := by decide +kernel
theorem dX6_flicker_6 : decode cX6_flicker 6 = .ok (.invokevirtual 105, 3) := by decide +kernel
theorem dX6_flicker_60 : decode cX6_flicker 60 = .ok (.iload 4, 2) := by decide +kernel
theorem dX6_flicker_62 : decode cX6_flicker 62 = .ok (.aload_n 0, 1) := by decide +kernel
theorem dX6_flicker_63 : decode cX6_flicker 63 = .ok (.getfield 23, 3) := by decide +kernel
theorem dX6_flicker_66 : decode cX6_flicker 66 = .ok (.getfield 66, 3) := by decide +kernel
theorem dX6_flicker_69 : decode cX6_flicker 69 = .ok (.if_icmp .ge 58, 3) := by decide +kernel
theorem dX6_flicker_72 : decode cX6_flicker 72 = .ok (.aload_n 0, 1) := by decide +kernel
theorem dX6_flicker_73 : decode cX6_flicker 73 = .ok (.getfield 30, 3) := by decide +kernel
theorem dX6_flicker_76 : decode cX6_flicker 76 = .ok (.iload 4, 2) := by decide +kernel
theorem dX6_flicker_78 : decode cX6_flicker 78 = .ok (.iaload, 1) := by decide +kernel
theorem dX6_flicker_79 : decode cX6_flicker 79 = .ok (.iconst 2, 1) := by decide +kernel
theorem dX6_flicker_80 : decode cX6_flicker 80 = .ok (.if_icmp .ge 41, 3) := by decide +kernel
theorem dX6_flicker_83 : decode cX6_flicker 83 = .ok (.aload_n 0, 1) := by decide +kernel
theorem dX6_flicker_84 : decode cX6_flicker 84 = .ok (.getfield 34, 3) := by decide +kernel
theorem dX6_flicker_87 : decode cX6_flicker 87 = .ok (.iload 4, 2) := by decide +kernel
theorem dX6_flicker_89 : decode cX6_flicker 89 = .ok (.iaload, 1) := by decide +kernel
theorem dX6_flicker_9 : decode cX6_flicker 9 = .ok (.ifCond .eq 17, 3) := by decide +kernel
theorem dX6_flicker_90 : decode cX6_flicker 90 = .ok (.aload_n 0, 1) := by decide +kernel
theorem dX6_flicker_91 : decode cX6_flicker 91 = .ok (.getfield 30, 3) := by decide +kernel
theorem dX6_flicker_94 : decode cX6_flicker 94 = .ok (.iload 4, 2) := by decide +kernel
theorem dX6_flicker_96 : decode cX6_flicker 96 = .ok (.iaload, 1) := by decide +kernel
theorem dX6_flicker_97 : decode cX6_flicker 97 = .ok (.if_icmp .ne 24, 3) := by decide +kernel
theorem dX6_gainsaid_0 : decode cX6_gainsaid 0 = .ok (.aload_n 0, 1) := by decide +kernel
theorem dX6_gainsaid_1 : decode cX6_gainsaid 1 = .ok (.invokevirtual 119, 3) := by decide +kernel
theorem dX6_gainsaid_10 : decode cX6_gainsaid 10 = .ok (.iconst 0, 1) := by decide +kernel
theorem dX6_gainsaid_11 : decode cX6_gainsaid 11 = .ok (.istore_n 1, 1) := by decide +kernel
theorem dX6_gainsaid_12 : decode cX6_gainsaid 12 = .ok (.iload_n 1, 1) := by decide +kernel
theorem dX6_gainsaid_13 : decode cX6_gainsaid 13 = .ok (.aload_n 0, 1) := by decide +kernel
theorem dX6_gainsaid_14 : decode cX6_gainsaid 14 = .ok (.getfield 23, 3) := by decide +kernel
theorem dX6_gainsaid_17 : decode cX6_gainsaid 17 = .ok (.getfield 66, 3) := by decide +kernel
theorem dX6_gainsaid_20 : decode cX6_gainsaid 20 = .ok (.if_icmp .ge 40, 3) := by decide +kernel
theorem dX6_gainsaid_23 : decode cX6_gainsaid 23 = .ok (.aload_n 0, 1) := by decide +kernel
theorem dX6_gainsaid_24 : decode cX6_gainsaid 24 = .ok (.getfield 30, 3) := by decide +kernel
theorem dX6_gainsaid_27 : decode cX6_gainsaid 27 = .ok (.iload_n 1, 1) := by decide +kernel
theorem dX6_gainsaid_28 : decode cX6_gainsaid 28 = .ok (.iaload, 1) := by decide +kernel
theorem dX6_gainsaid_29 : decode cX6_gainsaid 29 = .ok (.iconst 2, 1) := by decide +kernel
theorem dX6_gainsaid_30 : decode cX6_gainsaid 30 = .ok (.if_icmp .ge 24, 3) := by decide +kernel
theorem dX6_gainsaid_33 : decode cX6_gainsaid 33 = .ok (.aload_n 0, 1) := by decide +kernel
theorem dX6_gainsaid_34 : decode cX6_gainsaid 34 = .ok (.getfield 43, 3) := by decide +kernel
theorem dX6_gainsaid_37 : decode cX6_gainsaid 37 = .ok (.iload_n 1, 1) := by decide +kernel
theorem dX6_gainsaid_38 : decode cX6_gainsaid 38 = .ok (.iconst 1, 1) := by decide +kernel
theorem dX6_gainsaid_39 : decode cX6_gainsaid 39 = .ok (.aload_n 0, 1) := by decide +kernel
theorem dX6_gainsaid_4 : decode cX6_gainsaid 4 = .ok (.ifCond .ne 6, 3) := by decide +kernel
theorem dX6_gainsaid_40 : decode cX6_gainsaid 40 = .ok (.getfield 30, 3) := by decide +kernel
theorem dX6_gainsaid_43 : decode cX6_gainsaid 43 = .ok (.iload_n 1, 1) := by decide +kernel
theorem dX6_gainsaid_44 : decode cX6_gainsaid 44 = .ok (.iaload, 1) := by decide +kernel
theorem dX6_gainsaid_45 : decode cX6_gainsaid 45 = .ok (.isub, 1) := by decide +kernel
theorem dX6_gainsaid_46 : decode cX6_gainsaid 46 = .ok (.invokevirtual 129, 3) := by decide +kernel
theorem dX6_gainsaid_49 : decode cX6_gainsaid 49 = .ok (.ifCond .eq 5, 3) := by decide +kernel
theorem dX6_gainsaid_52 : decode cX6_gainsaid 52 = .ok (.iload_n 1, 1) := by decide +kernel
theorem dX6_gainsaid_53 : decode cX6_gainsaid 53 = .ok (.ireturn, 1) := by decide +kernel
theorem dX6_gainsaid_54 : decode cX6_gainsaid 54 = .ok (.iinc 1 1, 3) := by decide +kernel
theorem dX6_gainsaid_57 : decode cX6_gainsaid 57 = .ok (.goto (-45), 3) := by decide +kernel
theorem dX6_gainsaid_60 : decode cX6_gainsaid 60 = .ok (.iconst (-1), 1) := by decide +kernel
theorem dX6_gainsaid_61 : decode cX6_gainsaid 61 = .ok (.ireturn, 1) := by decide +kernel
theorem dX6_gainsaid_7 : decode cX6_gainsaid 7 = .ok (.bipush (-2), 2) := by decide +kernel
theorem dX6_gainsaid_9 : decode cX6_gainsaid 9 = .ok (.ireturn, 1) := by decide +kernel
theorem dX6_goThroughWorlds_0 : decode cX6_goThroughWorlds 0 = .ok (.aload_n 0, 1) := by decide +kernel
theorem dX6_goThroughWorlds_1 : decode cX6_goThroughWorlds 1 = .ok (.invokevirtual 115, 3) := by decide +kernel
theorem dX6_goThroughWorlds_11 : decode cX6_goThroughWorlds 11 = .ok (.iconst 0, 1) := by decide +kernel
theorem dX6_goThroughWorlds_12 : decode cX6_goThroughWorlds 12 = .ok (.ireturn, 1) := by decide +kernel
theorem dX6_goThroughWorlds_13 : decode cX6_goThroughWorlds 13 = .ok (.aload_n 0, 1) := by decide +kernel
theorem dX6_goThroughWorlds_14 : decode cX6_goThroughWorlds 14 = .ok (.getfield 167, 3) := by decide +kernel
theorem dX6_goThroughWorlds_17 : decode cX6_goThroughWorlds 17 = .ok (.ifCond .ne 24, 3) := by decide +kernel
theorem dX6_goThroughWorlds_20 : decode cX6_goThroughWorlds 20 = .ok (.aload_n 0, 1) := by decide +kernel
theorem dX6_goThroughWorlds_21 : decode cX6_goThroughWorlds 21 = .ok (.getfield 43, 3) := by decide +kernel
theorem dX6_goThroughWorlds_24 : decode cX6_goThroughWorlds 24 = .ok (.aload_n 0, 1) := by decide +kernel
theorem dX6_goThroughWorlds_25 : decode cX6_goThroughWorlds 25 = .ok (.getfield 23, 3) := by decide +kernel
theorem dX6_goThroughWorlds_28 : decode cX6_goThroughWorlds 28 = .ok (.aload_n 0, 1) := by decide +kernel
theorem dX6_goThroughWorlds_29 : decode cX6_goThroughWorlds 29 = .ok (.getfield 30, 3) := by decide +kernel
theorem dX6_goThroughWorlds_32 : decode cX6_goThroughWorlds 32 = .ok (.iload_n 1, 1) := by decide +kernel
theorem dX6_goThroughWorlds_33 : decode cX6_goThroughWorlds 33 = .ok (.invokevirtual 179, 3) := by decide +kernel
theorem dX6_goThroughWorlds_36 : decode cX6_goThroughWorlds 36 = .ok (.aload_n 0, 1) := by decide +kernel
theorem dX6_goThroughWorlds_37 : decode cX6_goThroughWorlds 37 = .ok (.iconst 1, 1) := by decide +kernel
theorem dX6_goThroughWorlds_38 : decode cX6_goThroughWorlds 38 = .ok (.putfield 167, 3) := by decide +kernel
theorem dX6_goThroughWorlds_4 : decode cX6_goThroughWorlds 4 = .ok (.istore_n 1, 1) := by decide +kernel
theorem dX6_goThroughWorlds_41 : decode cX6_goThroughWorlds 41 = .ok (.iconst 1, 1) := by decide +kernel
theorem dX6_goThroughWorlds_42 : decode cX6_goThroughWorlds 42 = .ok (.ireturn, 1) := by decide +kernel
theorem dX6_goThroughWorlds_5 : decode cX6_goThroughWorlds 5 = .ok (.iload_n 1, 1) := by decide +kernel
theorem dX6_goThroughWorlds_6 : decode cX6_goThroughWorlds 6 = .ok (.bipush 12, 2) := by decide +kernel
theorem dX6_goThroughWorlds_8 : decode cX6_goThroughWorlds 8 = .ok (.if_icmp .le 5, 3) := by decide +kernel
theorem dX6_legal_0 : decode cX6_legal 0 = .ok (.aload_n 0, 1) := by decide +kernel
theorem dX6_legal_1 : decode cX6_legal 1 = .ok (.invokevirtual 119, 3) := by decide +kernel
theorem dX6_legal_11 : decode cX6_legal 11 = .ok (.getfield 123, 3) := by decide +kernel
theorem dX6_legal_14 : decode cX6_legal 14 = .ok (.goto 5, 3) := by decide +kernel
theorem dX6_legal_17 : decode cX6_legal 17 = .ok (.bipush (-2), 2) := by decide +kernel
theorem dX6_legal_19 : decode cX6_legal 19 = .ok (.ireturn, 1) := by decide +kernel
theorem dX6_legal_4 : decode cX6_legal 4 = .ok (.ifCond .eq 13, 3) := by decide +kernel
theorem dX6_legal_7 : decode cX6_legal 7 = .ok (.aload_n 0, 1) := by decide +kernel
theorem dX6_legal_8 : decode cX6_legal 8 = .ok (.getfield 43, 3) := by decide +kernel
theorem dX6_load_0 : decode cX6_load 0 = .ok (.aload_n 0, 1) := by decide +kernel
theorem dX6_load_1 : decode cX6_load 1 = .ok (.getfield 23, 3) := by decide +kernel
theorem dX6_load_12 : decode cX6_load 12 = .ok (.iload_n 2, 1) := by decide +kernel
theorem dX6_load_13 : decode cX6_load 13 = .ok (.ifCond .lt 8, 3) := by decide +kernel
theorem dX6_load_16 : decode cX6_load 16 = .ok (.iload_n 2, 1) := by decide +kernel
theorem dX6_load_17 : decode cX6_load 17 = .ok (.iconst 2, 1) := by decide +kernel
theorem dX6_load_18 : decode cX6_load 18 = .ok (.if_icmp .le 5, 3) := by decide +kernel
theorem dX6_load_21 : decode cX6_load 21 = .ok (.iconst 0, 1) := by decide +kernel
theorem dX6_load_22 : decode cX6_load 22 = .ok (.ireturn, 1) := by decide +kernel
theorem dX6_load_23 : decode cX6_load 23 = .ok (.aload_n 0, 1) := by decide +kernel
theorem dX6_load_24 : decode cX6_load 24 = .ok (.getfield 30, 3) := by decide +kernel
theorem dX6_load_27 : decode cX6_load 27 = .ok (.iload_n 1, 1) := by decide +kernel
theorem dX6_load_28 : decode cX6_load 28 = .ok (.iload_n 2, 1) := by decide +kernel
theorem dX6_load_29 : decode cX6_load 29 = .ok (.iastore, 1) := by decide +kernel
theorem dX6_load_30 : decode cX6_load 30 = .ok (.aload_n 0, 1) := by decide +kernel
theorem dX6_load_31 : decode cX6_load 31 = .ok (.invokevirtual 73, 3) := by decide +kernel
theorem dX6_load_34 : decode cX6_load 34 = .ok (.iconst 1, 1) := by decide +kernel
theorem dX6_load_35 : decode cX6_load 35 = .ok (.ireturn, 1) := by decide +kernel
theorem dX6_load_4 : decode cX6_load 4 = .ok (.iload_n 1, 1) := by decide +kernel
theorem dX6_load_5 : decode cX6_load 5 = .ok (.iconst 3, 1) := by decide +kernel
theorem dX6_load_6 : decode cX6_load 6 = .ok (.invokevirtual 105, 3) := by decide +kernel
theorem dX6_load_9 : decode cX6_load 9 = .ok (.ifCond .eq 12, 3) := by decide +kernel
theorem dX6_named_0 : decode cX6_named 0 = .ok (.lconst 0, 1) := by decide +kernel
theorem dX6_named_1 : decode cX6_named 1 = .ok (.lstore_n 3, 1) := by decide +kernel
theorem dX6_named_11 : decode cX6_named 11 = .ok (.lload_n 1, 1) := by decide +kernel
theorem dX6_named_12 : decode cX6_named 12 = .ok (.iload 5, 2) := by decide +kernel
theorem dX6_named_14 : decode cX6_named 14 = .ok (.lushr, 1) := by decide +kernel
theorem dX6_named_15 : decode cX6_named 15 = .ok (.ldc2_w 82, 3) := by decide +kernel
theorem dX6_named_18 : decode cX6_named 18 = .ok (.land, 1) := by decide +kernel
theorem dX6_named_19 : decode cX6_named 19 = .ok (.lstore 6, 2) := by decide +kernel
theorem dX6_named_2 : decode cX6_named 2 = .ok (.bipush 56, 2) := by decide +kernel
theorem dX6_named_21 : decode cX6_named 21 = .ok (.lload 6, 2) := by decide +kernel
theorem dX6_named_23 : decode cX6_named 23 = .ok (.lconst 0, 1) := by decide +kernel
theorem dX6_named_24 : decode cX6_named 24 = .ok (.lcmp, 1) := by decide +kernel
theorem dX6_named_25 : decode cX6_named 25 = .ok (.ifCond .eq 11, 3) := by decide +kernel
theorem dX6_named_28 : decode cX6_named 28 = .ok (.lload_n 3, 1) := by decide +kernel
theorem dX6_named_29 : decode cX6_named 29 = .ok (.bipush 8, 2) := by decide +kernel
theorem dX6_named_31 : decode cX6_named 31 = .ok (.lshl, 1) := by decide +kernel
theorem dX6_named_32 : decode cX6_named 32 = .ok (.lload 6, 2) := by decide +kernel
theorem dX6_named_34 : decode cX6_named 34 = .ok (.lor, 1) := by decide +kernel
theorem dX6_named_35 : decode cX6_named 35 = .ok (.lstore_n 3, 1) := by decide +kernel
theorem dX6_named_36 : decode cX6_named 36 = .ok (.iinc 5 (-8), 3) := by decide +kernel
theorem dX6_named_39 : decode cX6_named 39 = .ok (.goto (-33), 3) := by decide +kernel
theorem dX6_named_4 : decode cX6_named 4 = .ok (.istore 5, 2) := by decide +kernel
theorem dX6_named_42 : decode cX6_named 42 = .ok (.aload_n 0, 1) := by decide +kernel
theorem dX6_named_43 : decode cX6_named 43 = .ok (.getfield 23, 3) := by decide +kernel
theorem dX6_named_46 : decode cX6_named 46 = .ok (.lload_n 3, 1) := by decide +kernel
theorem dX6_named_47 : decode cX6_named 47 = .ok (.invokevirtual 84, 3) := by decide +kernel
theorem dX6_named_50 : decode cX6_named 50 = .ok (.ireturn, 1) := by decide +kernel
theorem dX6_named_6 : decode cX6_named 6 = .ok (.iload 5, 2) := by decide +kernel
theorem dX6_named_8 : decode cX6_named 8 = .ok (.ifCond .lt 34, 3) := by decide +kernel
theorem dX6_node_0 : decode cX6_node 0 = .ok (.aload_n 0, 1) := by decide +kernel
theorem dX6_node_1 : decode cX6_node 1 = .ok (.getfield 23, 3) := by decide +kernel
theorem dX6_node_11 : decode cX6_node 11 = .ok (.iconst (-1), 1) := by decide +kernel
theorem dX6_node_12 : decode cX6_node 12 = .ok (.ireturn, 1) := by decide +kernel
theorem dX6_node_13 : decode cX6_node 13 = .ok (.iload_n 2, 1) := by decide +kernel
theorem dX6_node_14 : decode cX6_node 14 = .ok (.tableswitch 69 0 3 #[30, 40, 49, 59], 30) := by decide +kernel
theorem dX6_node_4 : decode cX6_node 4 = .ok (.iload_n 1, 1) := by decide +kernel
theorem dX6_node_44 : decode cX6_node 44 = .ok (.aload_n 0, 1) := by decide +kernel
theorem dX6_node_45 : decode cX6_node 45 = .ok (.getfield 23, 3) := by decide +kernel
theorem dX6_node_48 : decode cX6_node 48 = .ok (.getfield 92, 3) := by decide +kernel
theorem dX6_node_5 : decode cX6_node 5 = .ok (.invokevirtual 88, 3) := by decide +kernel
theorem dX6_node_51 : decode cX6_node 51 = .ok (.iload_n 1, 1) := by decide +kernel
theorem dX6_node_52 : decode cX6_node 52 = .ok (.iaload, 1) := by decide +kernel
theorem dX6_node_53 : decode cX6_node 53 = .ok (.ireturn, 1) := by decide +kernel
theorem dX6_node_54 : decode cX6_node 54 = .ok (.aload_n 0, 1) := by decide +kernel
theorem dX6_node_55 : decode cX6_node 55 = .ok (.getfield 23, 3) := by decide +kernel
theorem dX6_node_58 : decode cX6_node 58 = .ok (.iload_n 1, 1) := by decide +kernel
theorem dX6_node_59 : decode cX6_node 59 = .ok (.invokevirtual 95, 3) := by decide +kernel
theorem dX6_node_62 : decode cX6_node 62 = .ok (.ireturn, 1) := by decide +kernel
theorem dX6_node_63 : decode cX6_node 63 = .ok (.aload_n 0, 1) := by decide +kernel
theorem dX6_node_64 : decode cX6_node 64 = .ok (.getfield 23, 3) := by decide +kernel
theorem dX6_node_67 : decode cX6_node 67 = .ok (.getfield 99, 3) := by decide +kernel
theorem dX6_node_70 : decode cX6_node 70 = .ok (.iload_n 1, 1) := by decide +kernel
theorem dX6_node_71 : decode cX6_node 71 = .ok (.iaload, 1) := by decide +kernel
theorem dX6_node_72 : decode cX6_node 72 = .ok (.ireturn, 1) := by decide +kernel
theorem dX6_node_73 : decode cX6_node 73 = .ok (.aload_n 0, 1) := by decide +kernel
theorem dX6_node_74 : decode cX6_node 74 = .ok (.getfield 23, 3) := by decide +kernel
theorem dX6_node_77 : decode cX6_node 77 = .ok (.getfield 102, 3) := by decide +kernel
theorem dX6_node_8 : decode cX6_node 8 = .ok (.ifCond .ne 5, 3) := by decide +kernel
theorem dX6_node_80 : decode cX6_node 80 = .ok (.iload_n 1, 1) := by decide +kernel
theorem dX6_node_81 : decode cX6_node 81 = .ok (.iaload, 1) := by decide +kernel
theorem dX6_node_82 : decode cX6_node 82 = .ok (.ireturn, 1) := by decide +kernel
theorem dX6_node_83 : decode cX6_node 83 = .ok (.iconst (-1), 1) := by decide +kernel
theorem dX6_node_84 : decode cX6_node 84 = .ok (.ireturn, 1) := by decide +kernel
theorem dX6_on_0 : decode cX6_on 0 = .ok (.aload_n 0, 1) := by decide +kernel
theorem dX6_on_1 : decode cX6_on 1 = .ok (.getfield 69, 3) := by decide +kernel
theorem dX6_on_11 : decode cX6_on 11 = .ok (.iload_n 1, 1) := by decide +kernel
theorem dX6_on_12 : decode cX6_on 12 = .ok (.invokevirtual 88, 3) := by decide +kernel
theorem dX6_on_15 : decode cX6_on 15 = .ok (.ifCond .eq 15, 3) := by decide +kernel
theorem dX6_on_18 : decode cX6_on 18 = .ok (.aload_n 0, 1) := by decide +kernel
theorem dX6_on_19 : decode cX6_on 19 = .ok (.getfield 50, 3) := by decide +kernel
theorem dX6_on_22 : decode cX6_on 22 = .ok (.getfield 148, 3) := by decide +kernel
theorem dX6_on_25 : decode cX6_on 25 = .ok (.iload_n 1, 1) := by decide +kernel
theorem dX6_on_26 : decode cX6_on 26 = .ok (.iaload, 1) := by decide +kernel
theorem dX6_on_27 : decode cX6_on 27 = .ok (.goto 4, 3) := by decide +kernel
theorem dX6_on_30 : decode cX6_on 30 = .ok (.iconst (-1), 1) := by decide +kernel
theorem dX6_on_31 : decode cX6_on 31 = .ok (.ireturn, 1) := by decide +kernel
theorem dX6_on_4 : decode cX6_on 4 = .ok (.ifCond .eq 26, 3) := by decide +kernel
theorem dX6_on_7 : decode cX6_on 7 = .ok (.aload_n 0, 1) := by decide +kernel
theorem dX6_on_8 : decode cX6_on 8 = .ok (.getfield 23, 3) := by decide +kernel
theorem dX6_put_0 : decode cX6_put 0 = .ok (.aload_n 0, 1) := by decide +kernel
theorem dX6_put_1 : decode cX6_put 1 = .ok (.getfield 69, 3) := by decide +kernel
theorem dX6_put_11 : decode cX6_put 11 = .ok (.iload_n 1, 1) := by decide +kernel
theorem dX6_put_12 : decode cX6_put 12 = .ok (.iconst 0, 1) := by decide +kernel
theorem dX6_put_13 : decode cX6_put 13 = .ok (.invokevirtual 105, 3) := by decide +kernel
theorem dX6_put_16 : decode cX6_put 16 = .ok (.ifCond .eq 12, 3) := by decide +kernel
theorem dX6_put_19 : decode cX6_put 19 = .ok (.iload_n 2, 1) := by decide +kernel
theorem dX6_put_20 : decode cX6_put 20 = .ok (.ifCond .lt 8, 3) := by decide +kernel
theorem dX6_put_23 : decode cX6_put 23 = .ok (.iload_n 2, 1) := by decide +kernel
theorem dX6_put_24 : decode cX6_put 24 = .ok (.iconst 3, 1) := by decide +kernel
theorem dX6_put_25 : decode cX6_put 25 = .ok (.if_icmp .le 5, 3) := by decide +kernel
theorem dX6_put_28 : decode cX6_put 28 = .ok (.iconst 0, 1) := by decide +kernel
theorem dX6_put_29 : decode cX6_put 29 = .ok (.ireturn, 1) := by decide +kernel
theorem dX6_put_30 : decode cX6_put 30 = .ok (.aload_n 0, 1) := by decide +kernel
theorem dX6_put_31 : decode cX6_put 31 = .ok (.getfield 50, 3) := by decide +kernel
theorem dX6_put_34 : decode cX6_put 34 = .ok (.iload_n 1, 1) := by decide +kernel
theorem dX6_put_35 : decode cX6_put 35 = .ok (.iload_n 2, 1) := by decide +kernel
theorem dX6_put_36 : decode cX6_put 36 = .ok (.invokevirtual 140, 3) := by decide +kernel
theorem dX6_put_39 : decode cX6_put 39 = .ok (.pop, 1) := by decide +kernel
theorem dX6_put_4 : decode cX6_put 4 = .ok (.ifCond .eq 24, 3) := by decide +kernel
theorem dX6_put_40 : decode cX6_put 40 = .ok (.iconst 1, 1) := by decide +kernel
theorem dX6_put_41 : decode cX6_put 41 = .ok (.ireturn, 1) := by decide +kernel
theorem dX6_put_7 : decode cX6_put 7 = .ok (.aload_n 0, 1) := by decide +kernel
theorem dX6_put_8 : decode cX6_put 8 = .ok (.getfield 23, 3) := by decide +kernel
theorem dX6_read_0 : decode cX6_read 0 = .ok (.aload_n 0, 1) := by decide +kernel
theorem dX6_read_1 : decode cX6_read 1 = .ok (.getfield 54, 3) := by decide +kernel
theorem dX6_read_10 : decode cX6_read 10 = .ok (.aload_n 0, 1) := by decide +kernel
theorem dX6_read_11 : decode cX6_read 11 = .ok (.getfield 16, 3) := by decide +kernel
theorem dX6_read_14 : decode cX6_read 14 = .ok (.aload_n 0, 1) := by decide +kernel
theorem dX6_read_15 : decode cX6_read 15 = .ok (.getfield 27, 3) := by decide +kernel
theorem dX6_read_18 : decode cX6_read 18 = .ok (.aload_n 0, 1) := by decide +kernel
theorem dX6_read_19 : decode cX6_read 19 = .ok (.getfield 9, 3) := by decide +kernel
theorem dX6_read_22 : decode cX6_read 22 = .ok (.iload_n 1, 1) := by decide +kernel
theorem dX6_read_23 : decode cX6_read 23 = .ok (.invokevirtual 62, 3) := by decide +kernel
theorem dX6_read_26 : decode cX6_read 26 = .ok (.ifCond .ne 5, 3) := by decide +kernel
theorem dX6_read_29 : decode cX6_read 29 = .ok (.iconst (-1), 1) := by decide +kernel
theorem dX6_read_30 : decode cX6_read 30 = .ok (.ireturn, 1) := by decide +kernel
theorem dX6_read_31 : decode cX6_read 31 = .ok (.aload_n 0, 1) := by decide +kernel
theorem dX6_read_32 : decode cX6_read 32 = .ok (.getfield 23, 3) := by decide +kernel
theorem dX6_read_35 : decode cX6_read 35 = .ok (.astore_n 2, 1) := by decide +kernel
theorem dX6_read_36 : decode cX6_read 36 = .ok (.aload_n 0, 1) := by decide +kernel
theorem dX6_read_37 : decode cX6_read 37 = .ok (.aload_n 0, 1) := by decide +kernel
theorem dX6_read_38 : decode cX6_read 38 = .ok (.getfield 27, 3) := by decide +kernel
theorem dX6_read_4 : decode cX6_read 4 = .ok (.istore_n 1, 1) := by decide +kernel
theorem dX6_read_41 : decode cX6_read 41 = .ok (.putfield 23, 3) := by decide +kernel
theorem dX6_read_44 : decode cX6_read 44 = .ok (.aload_n 0, 1) := by decide +kernel
theorem dX6_read_45 : decode cX6_read 45 = .ok (.aload_n 2, 1) := by decide +kernel
theorem dX6_read_46 : decode cX6_read 46 = .ok (.putfield 27, 3) := by decide +kernel
theorem dX6_read_49 : decode cX6_read 49 = .ok (.iconst 0, 1) := by decide +kernel
theorem dX6_read_5 : decode cX6_read 5 = .ok (.aload_n 0, 1) := by decide +kernel
theorem dX6_read_50 : decode cX6_read 50 = .ok (.istore_n 3, 1) := by decide +kernel
theorem dX6_read_51 : decode cX6_read 51 = .ok (.iload_n 3, 1) := by decide +kernel
theorem dX6_read_52 : decode cX6_read 52 = .ok (.aload_n 0, 1) := by decide +kernel
theorem dX6_read_53 : decode cX6_read 53 = .ok (.getfield 23, 3) := by decide +kernel
theorem dX6_read_56 : decode cX6_read 56 = .ok (.getfield 66, 3) := by decide +kernel
theorem dX6_read_59 : decode cX6_read 59 = .ok (.if_icmp .ge 16, 3) := by decide +kernel
theorem dX6_read_6 : decode cX6_read 6 = .ok (.iconst 0, 1) := by decide +kernel
theorem dX6_read_62 : decode cX6_read 62 = .ok (.aload_n 0, 1) := by decide +kernel
theorem dX6_read_63 : decode cX6_read 63 = .ok (.getfield 30, 3) := by decide +kernel
theorem dX6_read_66 : decode cX6_read 66 = .ok (.iload_n 3, 1) := by decide +kernel
theorem dX6_read_67 : decode cX6_read 67 = .ok (.iconst 2, 1) := by decide +kernel
theorem dX6_read_68 : decode cX6_read 68 = .ok (.iastore, 1) := by decide +kernel
theorem dX6_read_69 : decode cX6_read 69 = .ok (.iinc 3 1, 3) := by decide +kernel
theorem dX6_read_7 : decode cX6_read 7 = .ok (.putfield 54, 3) := by decide +kernel
theorem dX6_read_72 : decode cX6_read 72 = .ok (.goto (-21), 3) := by decide +kernel
theorem dX6_read_75 : decode cX6_read 75 = .ok (.aload_n 0, 1) := by decide +kernel
theorem dX6_read_76 : decode cX6_read 76 = .ok (.iconst 0, 1) := by decide +kernel
theorem dX6_read_77 : decode cX6_read 77 = .ok (.putfield 69, 3) := by decide +kernel
theorem dX6_read_80 : decode cX6_read 80 = .ok (.aload_n 0, 1) := by decide +kernel
theorem dX6_read_81 : decode cX6_read 81 = .ok (.invokevirtual 73, 3) := by decide +kernel
theorem dX6_read_84 : decode cX6_read 84 = .ok (.aload_n 0, 1) := by decide +kernel
theorem dX6_read_85 : decode cX6_read 85 = .ok (.getfield 23, 3) := by decide +kernel
theorem dX6_read_88 : decode cX6_read 88 = .ok (.getfield 66, 3) := by decide +kernel
theorem dX6_read_91 : decode cX6_read 91 = .ok (.ireturn, 1) := by decide +kernel
theorem dX6_run_0 : decode cX6_run 0 = .ok (.aload_n 0, 1) := by decide +kernel
theorem dX6_run_1 : decode cX6_run 1 = .ok (.getfield 69, 3) := by decide +kernel
theorem dX6_run_11 : decode cX6_run 11 = .ok (.iload_n 1, 1) := by decide +kernel
theorem dX6_run_12 : decode cX6_run 12 = .ok (.sipush 1000, 3) := by decide +kernel
theorem dX6_run_15 : decode cX6_run 15 = .ok (.if_icmp .le 5, 3) := by decide +kernel
theorem dX6_run_18 : decode cX6_run 18 = .ok (.iconst (-1), 1) := by decide +kernel
theorem dX6_run_19 : decode cX6_run 19 = .ok (.ireturn, 1) := by decide +kernel
theorem dX6_run_20 : decode cX6_run 20 = .ok (.aload_n 0, 1) := by decide +kernel
theorem dX6_run_21 : decode cX6_run 21 = .ok (.getfield 50, 3) := by decide +kernel
theorem dX6_run_24 : decode cX6_run 24 = .ok (.aload_n 0, 1) := by decide +kernel
theorem dX6_run_25 : decode cX6_run 25 = .ok (.getfield 23, 3) := by decide +kernel
theorem dX6_run_28 : decode cX6_run 28 = .ok (.iload_n 1, 1) := by decide +kernel
theorem dX6_run_29 : decode cX6_run 29 = .ok (.invokevirtual 144, 3) := by decide +kernel
theorem dX6_run_32 : decode cX6_run 32 = .ok (.ireturn, 1) := by decide +kernel
theorem dX6_run_4 : decode cX6_run 4 = .ok (.ifCond .eq 14, 3) := by decide +kernel
theorem dX6_run_7 : decode cX6_run 7 = .ok (.iload_n 1, 1) := by decide +kernel
theorem dX6_run_8 : decode cX6_run 8 = .ok (.ifCond .lt 10, 3) := by decide +kernel
theorem dX6_set_0 : decode cX6_set 0 = .ok (.aload_n 0, 1) := by decide +kernel
theorem dX6_set_1 : decode cX6_set 1 = .ok (.getfield 23, 3) := by decide +kernel
theorem dX6_set_12 : decode cX6_set 12 = .ok (.iload_n 2, 1) := by decide +kernel
theorem dX6_set_13 : decode cX6_set 13 = .ok (.ifCond .lt 8, 3) := by decide +kernel
theorem dX6_set_16 : decode cX6_set 16 = .ok (.iload_n 2, 1) := by decide +kernel
theorem dX6_set_17 : decode cX6_set 17 = .ok (.iconst 3, 1) := by decide +kernel
theorem dX6_set_18 : decode cX6_set 18 = .ok (.if_icmp .le 5, 3) := by decide +kernel
theorem dX6_set_21 : decode cX6_set 21 = .ok (.iconst 0, 1) := by decide +kernel
theorem dX6_set_22 : decode cX6_set 22 = .ok (.ireturn, 1) := by decide +kernel
theorem dX6_set_23 : decode cX6_set 23 = .ok (.aload_n 0, 1) := by decide +kernel
theorem dX6_set_24 : decode cX6_set 24 = .ok (.getfield 30, 3) := by decide +kernel
theorem dX6_set_27 : decode cX6_set 27 = .ok (.iload_n 1, 1) := by decide +kernel
theorem dX6_set_28 : decode cX6_set 28 = .ok (.iload_n 2, 1) := by decide +kernel
theorem dX6_set_29 : decode cX6_set 29 = .ok (.iastore, 1) := by decide +kernel
theorem dX6_set_30 : decode cX6_set 30 = .ok (.aload_n 0, 1) := by decide +kernel
theorem dX6_set_31 : decode cX6_set 31 = .ok (.invokevirtual 73, 3) := by decide +kernel
theorem dX6_set_34 : decode cX6_set 34 = .ok (.iconst 1, 1) := by decide +kernel
theorem dX6_set_35 : decode cX6_set 35 = .ok (.ireturn, 1) := by decide +kernel
theorem dX6_set_4 : decode cX6_set 4 = .ok (.iload_n 1, 1) := by decide +kernel
theorem dX6_set_5 : decode cX6_set 5 = .ok (.iconst 0, 1) := by decide +kernel
theorem dX6_set_6 : decode cX6_set 6 = .ok (.invokevirtual 105, 3) := by decide +kernel
theorem dX6_set_9 : decode cX6_set 9 = .ok (.ifCond .eq 12, 3) := by decide +kernel
theorem dX6_settleValues_0 : decode cX6_settleValues 0 = .ok (.aload_n 0, 1) := by decide +kernel
theorem dX6_settleValues_1 : decode cX6_settleValues 1 = .ok (.getfield 23, 3) := by decide +kernel
theorem dX6_settleValues_11 : decode cX6_settleValues 11 = .ok (.aload_n 0, 1) := by decide +kernel
theorem dX6_settleValues_12 : decode cX6_settleValues 12 = .ok (.iconst 0, 1) := by decide +kernel
theorem dX6_settleValues_13 : decode cX6_settleValues 13 = .ok (.putfield 167, 3) := by decide +kernel
theorem dX6_settleValues_16 : decode cX6_settleValues 16 = .ok (.return_, 1) := by decide +kernel
theorem dX6_settleValues_4 : decode cX6_settleValues 4 = .ok (.aload_n 0, 1) := by decide +kernel
theorem dX6_settleValues_5 : decode cX6_settleValues 5 = .ok (.getfield 30, 3) := by decide +kernel
theorem dX6_settleValues_8 : decode cX6_settleValues 8 = .ok (.invokestatic 164, 3) := by decide +kernel
theorem dX6_settleWith_0 : decode cX6_settleWith 0 = .ok (.aload_n 0, 1) := by decide +kernel
theorem dX6_settleWith_1 : decode cX6_settleWith 1 = .ok (.getfield 30, 3) := by decide +kernel
theorem dX6_settleWith_12 : decode cX6_settleWith 12 = .ok (.aload_n 1, 1) := by decide +kernel
theorem dX6_settleWith_13 : decode cX6_settleWith 13 = .ok (.iload_n 2, 1) := by decide +kernel
theorem dX6_settleWith_14 : decode cX6_settleWith 14 = .ok (.iload_n 3, 1) := by decide +kernel
theorem dX6_settleWith_15 : decode cX6_settleWith 15 = .ok (.iastore, 1) := by decide +kernel
theorem dX6_settleWith_16 : decode cX6_settleWith 16 = .ok (.aload_n 0, 1) := by decide +kernel
theorem dX6_settleWith_17 : decode cX6_settleWith 17 = .ok (.getfield 23, 3) := by decide +kernel
theorem dX6_settleWith_20 : decode cX6_settleWith 20 = .ok (.aload_n 1, 1) := by decide +kernel
theorem dX6_settleWith_21 : decode cX6_settleWith 21 = .ok (.invokestatic 164, 3) := by decide +kernel
theorem dX6_settleWith_24 : decode cX6_settleWith 24 = .ok (.return_, 1) := by decide +kernel
theorem dX6_settleWith_4 : decode cX6_settleWith 4 = .ok (.iconst 0, 1) := by decide +kernel
theorem dX6_settleWith_5 : decode cX6_settleWith 5 = .ok (.aload_n 1, 1) := by decide +kernel
theorem dX6_settleWith_6 : decode cX6_settleWith 6 = .ok (.iconst 0, 1) := by decide +kernel
theorem dX6_settleWith_7 : decode cX6_settleWith 7 = .ok (.bipush 60, 2) := by decide +kernel
theorem dX6_settleWith_9 : decode cX6_settleWith 9 = .ok (.invokestatic 170, 3) := by decide +kernel
theorem dX6_sharp_0 : decode cX6_sharp 0 = .ok (.aload_n 0, 1) := by decide +kernel
theorem dX6_sharp_1 : decode cX6_sharp 1 = .ok (.invokevirtual 119, 3) := by decide +kernel
theorem dX6_sharp_10 : decode cX6_sharp 10 = .ok (.aload_n 0, 1) := by decide +kernel
theorem dX6_sharp_11 : decode cX6_sharp 11 = .ok (.getfield 23, 3) := by decide +kernel
theorem dX6_sharp_14 : decode cX6_sharp 14 = .ok (.iload_n 1, 1) := by decide +kernel
theorem dX6_sharp_15 : decode cX6_sharp 15 = .ok (.invokevirtual 88, 3) := by decide +kernel
theorem dX6_sharp_18 : decode cX6_sharp 18 = .ok (.ifCond .eq 14, 3) := by decide +kernel
theorem dX6_sharp_21 : decode cX6_sharp 21 = .ok (.aload_n 0, 1) := by decide +kernel
theorem dX6_sharp_22 : decode cX6_sharp 22 = .ok (.getfield 43, 3) := by decide +kernel
theorem dX6_sharp_25 : decode cX6_sharp 25 = .ok (.iload_n 1, 1) := by decide +kernel
theorem dX6_sharp_26 : decode cX6_sharp 26 = .ok (.invokevirtual 126, 3) := by decide +kernel
theorem dX6_sharp_29 : decode cX6_sharp 29 = .ok (.goto 4, 3) := by decide +kernel
theorem dX6_sharp_32 : decode cX6_sharp 32 = .ok (.iconst (-1), 1) := by decide +kernel
theorem dX6_sharp_33 : decode cX6_sharp 33 = .ok (.ireturn, 1) := by decide +kernel
theorem dX6_sharp_4 : decode cX6_sharp 4 = .ok (.ifCond .ne 6, 3) := by decide +kernel
theorem dX6_sharp_7 : decode cX6_sharp 7 = .ok (.bipush (-2), 2) := by decide +kernel
theorem dX6_sharp_9 : decode cX6_sharp 9 = .ok (.ireturn, 1) := by decide +kernel
theorem dX6_tick_0 : decode cX6_tick 0 = .ok (.iconst 0, 1) := by decide +kernel
theorem dX6_tick_1 : decode cX6_tick 1 = .ok (.istore_n 1, 1) := by decide +kernel
theorem dX6_tick_10 : decode cX6_tick 10 = .ok (.if_icmp .ge 49, 3) := by decide +kernel
theorem dX6_tick_101 : decode cX6_tick 101 = .ok (.iload_n 2, 1) := by decide +kernel
theorem dX6_tick_102 : decode cX6_tick 102 = .ok (.iaload, 1) := by decide +kernel
theorem dX6_tick_103 : decode cX6_tick 103 = .ok (.iastore, 1) := by decide +kernel
theorem dX6_tick_104 : decode cX6_tick 104 = .ok (.iinc 2 1, 3) := by decide +kernel
theorem dX6_tick_107 : decode cX6_tick 107 = .ok (.goto (-44), 3) := by decide +kernel
theorem dX6_tick_110 : decode cX6_tick 110 = .ok (.aload_n 0, 1) := by decide +kernel
theorem dX6_tick_111 : decode cX6_tick 111 = .ok (.invokevirtual 73, 3) := by decide +kernel
theorem dX6_tick_114 : decode cX6_tick 114 = .ok (.iload_n 1, 1) := by decide +kernel
theorem dX6_tick_115 : decode cX6_tick 115 = .ok (.ireturn, 1) := by decide +kernel
theorem dX6_tick_13 : decode cX6_tick 13 = .ok (.aload_n 0, 1) := by decide +kernel
theorem dX6_tick_14 : decode cX6_tick 14 = .ok (.getfield 34, 3) := by decide +kernel
theorem dX6_tick_17 : decode cX6_tick 17 = .ok (.iload_n 1, 1) := by decide +kernel
theorem dX6_tick_18 : decode cX6_tick 18 = .ok (.aload_n 0, 1) := by decide +kernel
theorem dX6_tick_19 : decode cX6_tick 19 = .ok (.getfield 23, 3) := by decide +kernel
theorem dX6_tick_2 : decode cX6_tick 2 = .ok (.iload_n 1, 1) := by decide +kernel
theorem dX6_tick_22 : decode cX6_tick 22 = .ok (.getfield 92, 3) := by decide +kernel
theorem dX6_tick_25 : decode cX6_tick 25 = .ok (.iload_n 1, 1) := by decide +kernel
theorem dX6_tick_26 : decode cX6_tick 26 = .ok (.iaload, 1) := by decide +kernel
theorem dX6_tick_27 : decode cX6_tick 27 = .ok (.iconst 3, 1) := by decide +kernel
theorem dX6_tick_28 : decode cX6_tick 28 = .ok (.if_icmp .ne 18, 3) := by decide +kernel
theorem dX6_tick_3 : decode cX6_tick 3 = .ok (.aload_n 0, 1) := by decide +kernel
theorem dX6_tick_31 : decode cX6_tick 31 = .ok (.aload_n 0, 1) := by decide +kernel
theorem dX6_tick_32 : decode cX6_tick 32 = .ok (.getfield 23, 3) := by decide +kernel
theorem dX6_tick_35 : decode cX6_tick 35 = .ok (.iload_n 1, 1) := by decide +kernel
theorem dX6_tick_36 : decode cX6_tick 36 = .ok (.aload_n 0, 1) := by decide +kernel
theorem dX6_tick_37 : decode cX6_tick 37 = .ok (.getfield 30, 3) := by decide +kernel
theorem dX6_tick_4 : decode cX6_tick 4 = .ok (.getfield 23, 3) := by decide +kernel
theorem dX6_tick_40 : decode cX6_tick 40 = .ok (.invokestatic 109, 3) := by decide +kernel
theorem dX6_tick_43 : decode cX6_tick 43 = .ok (.goto 9, 3) := by decide +kernel
theorem dX6_tick_46 : decode cX6_tick 46 = .ok (.aload_n 0, 1) := by decide +kernel
theorem dX6_tick_47 : decode cX6_tick 47 = .ok (.getfield 30, 3) := by decide +kernel
theorem dX6_tick_50 : decode cX6_tick 50 = .ok (.iload_n 1, 1) := by decide +kernel
theorem dX6_tick_51 : decode cX6_tick 51 = .ok (.iaload, 1) := by decide +kernel
theorem dX6_tick_52 : decode cX6_tick 52 = .ok (.iastore, 1) := by decide +kernel
theorem dX6_tick_53 : decode cX6_tick 53 = .ok (.iinc 1 1, 3) := by decide +kernel
theorem dX6_tick_56 : decode cX6_tick 56 = .ok (.goto (-54), 3) := by decide +kernel
theorem dX6_tick_59 : decode cX6_tick 59 = .ok (.iconst 0, 1) := by decide +kernel
theorem dX6_tick_60 : decode cX6_tick 60 = .ok (.istore_n 1, 1) := by decide +kernel
theorem dX6_tick_61 : decode cX6_tick 61 = .ok (.iconst 0, 1) := by decide +kernel
theorem dX6_tick_62 : decode cX6_tick 62 = .ok (.istore_n 2, 1) := by decide +kernel
theorem dX6_tick_63 : decode cX6_tick 63 = .ok (.iload_n 2, 1) := by decide +kernel
theorem dX6_tick_64 : decode cX6_tick 64 = .ok (.aload_n 0, 1) := by decide +kernel
theorem dX6_tick_65 : decode cX6_tick 65 = .ok (.getfield 23, 3) := by decide +kernel
theorem dX6_tick_68 : decode cX6_tick 68 = .ok (.getfield 66, 3) := by decide +kernel
theorem dX6_tick_7 : decode cX6_tick 7 = .ok (.getfield 66, 3) := by decide +kernel
theorem dX6_tick_71 : decode cX6_tick 71 = .ok (.if_icmp .ge 39, 3) := by decide +kernel
theorem dX6_tick_74 : decode cX6_tick 74 = .ok (.aload_n 0, 1) := by decide +kernel
theorem dX6_tick_75 : decode cX6_tick 75 = .ok (.getfield 34, 3) := by decide +kernel
theorem dX6_tick_78 : decode cX6_tick 78 = .ok (.iload_n 2, 1) := by decide +kernel
theorem dX6_tick_79 : decode cX6_tick 79 = .ok (.iaload, 1) := by decide +kernel
theorem dX6_tick_80 : decode cX6_tick 80 = .ok (.aload_n 0, 1) := by decide +kernel
theorem dX6_tick_81 : decode cX6_tick 81 = .ok (.getfield 30, 3) := by decide +kernel
theorem dX6_tick_84 : decode cX6_tick 84 = .ok (.iload_n 2, 1) := by decide +kernel
theorem dX6_tick_85 : decode cX6_tick 85 = .ok (.iaload, 1) := by decide +kernel
theorem dX6_tick_86 : decode cX6_tick 86 = .ok (.if_icmp .eq 18, 3) := by decide +kernel
theorem dX6_tick_89 : decode cX6_tick 89 = .ok (.iinc 1 1, 3) := by decide +kernel
theorem dX6_tick_92 : decode cX6_tick 92 = .ok (.aload_n 0, 1) := by decide +kernel
theorem dX6_tick_93 : decode cX6_tick 93 = .ok (.getfield 30, 3) := by decide +kernel
theorem dX6_tick_96 : decode cX6_tick 96 = .ok (.iload_n 2, 1) := by decide +kernel
theorem dX6_tick_97 : decode cX6_tick 97 = .ok (.aload_n 0, 1) := by decide +kernel
theorem dX6_tick_98 : decode cX6_tick 98 = .ok (.getfield 34, 3) := by decide +kernel
theorem dX6_value_0 : decode cX6_value 0 = .ok (.aload_n 0, 1) := by decide +kernel
theorem dX6_value_1 : decode cX6_value 1 = .ok (.getfield 23, 3) := by decide +kernel
theorem dX6_value_11 : decode cX6_value 11 = .ok (.aload_n 0, 1) := by decide +kernel
theorem dX6_value_12 : decode cX6_value 12 = .ok (.getfield 30, 3) := by decide +kernel
theorem dX6_value_15 : decode cX6_value 15 = .ok (.iload_n 1, 1) := by decide +kernel
theorem dX6_value_16 : decode cX6_value 16 = .ok (.iaload, 1) := by decide +kernel
theorem dX6_value_17 : decode cX6_value 17 = .ok (.goto 4, 3) := by decide +kernel
theorem dX6_value_20 : decode cX6_value 20 = .ok (.iconst (-1), 1) := by decide +kernel
theorem dX6_value_21 : decode cX6_value 21 = .ok (.ireturn, 1) := by decide +kernel
theorem dX6_value_4 : decode cX6_value 4 = .ok (.iload_n 1, 1) := by decide +kernel
theorem dX6_value_5 : decode cX6_value 5 = .ok (.invokevirtual 88, 3) := by decide +kernel
theorem dX6_value_8 : decode cX6_value 8 = .ok (.ifCond .eq 12, 3) := by decide +kernel
theorem dX6_wave_0 : decode cX6_wave 0 = .ok (.aload_n 0, 1) := by decide +kernel
theorem dX6_wave_1 : decode cX6_wave 1 = .ok (.getfield 69, 3) := by decide +kernel
theorem dX6_wave_11 : decode cX6_wave 11 = .ok (.iload_n 1, 1) := by decide +kernel
theorem dX6_wave_12 : decode cX6_wave 12 = .ok (.invokevirtual 88, 3) := by decide +kernel
theorem dX6_wave_15 : decode cX6_wave 15 = .ok (.ifCond .eq 15, 3) := by decide +kernel
theorem dX6_wave_18 : decode cX6_wave 18 = .ok (.aload_n 0, 1) := by decide +kernel
theorem dX6_wave_19 : decode cX6_wave 19 = .ok (.getfield 50, 3) := by decide +kernel
theorem dX6_wave_22 : decode cX6_wave 22 = .ok (.iload_n 1, 1) := by decide +kernel
theorem dX6_wave_23 : decode cX6_wave 23 = .ok (.iload_n 2, 1) := by decide +kernel
theorem dX6_wave_24 : decode cX6_wave 24 = .ok (.invokevirtual 149, 3) := by decide +kernel
theorem dX6_wave_27 : decode cX6_wave 27 = .ok (.goto 4, 3) := by decide +kernel
theorem dX6_wave_30 : decode cX6_wave 30 = .ok (.iconst (-1), 1) := by decide +kernel
theorem dX6_wave_31 : decode cX6_wave 31 = .ok (.ireturn, 1) := by decide +kernel
theorem dX6_wave_4 : decode cX6_wave 4 = .ok (.ifCond .eq 26, 3) := by decide +kernel
theorem dX6_wave_7 : decode cX6_wave 7 = .ok (.aload_n 0, 1) := by decide +kernel
theorem dX6_wave_8 : decode cX6_wave 8 = .ok (.getfield 23, 3) := by decide +kernel
theorem dX6_wheel_0 : decode cX6_wheel 0 = .ok (.aload_n 0, 1) := by decide +kernel
theorem dX6_wheel_1 : decode cX6_wheel 1 = .ok (.getfield 50, 3) := by decide +kernel
theorem dX6_wheel_12 : decode cX6_wheel 12 = .ok (.invokevirtual 136, 3) := by decide +kernel
theorem dX6_wheel_15 : decode cX6_wheel 15 = .ok (.aload_n 0, 1) := by decide +kernel
theorem dX6_wheel_16 : decode cX6_wheel 16 = .ok (.iconst 1, 1) := by decide +kernel
theorem dX6_wheel_17 : decode cX6_wheel 17 = .ok (.putfield 69, 3) := by decide +kernel
theorem dX6_wheel_20 : decode cX6_wheel 20 = .ok (.iconst 1, 1) := by decide +kernel
theorem dX6_wheel_21 : decode cX6_wheel 21 = .ok (.ireturn, 1) := by decide +kernel
theorem dX6_wheel_4 : decode cX6_wheel 4 = .ok (.aload_n 0, 1) := by decide +kernel
theorem dX6_wheel_5 : decode cX6_wheel 5 = .ok (.getfield 23, 3) := by decide +kernel
theorem dX6_wheel_8 : decode cX6_wheel 8 = .ok (.aload_n 0, 1) := by decide +kernel
theorem dX6_wheel_9 : decode cX6_wheel 9 = .ok (.getfield 30, 3) := by decide +kernel
theorem dX6_worlds_0 : decode cX6_worlds 0 = .ok (.aload_n 0, 1) := by decide +kernel
theorem dX6_worlds_1 : decode cX6_worlds 1 = .ok (.invokevirtual 115, 3) := by decide +kernel
theorem dX6_worlds_11 : decode cX6_worlds 11 = .ok (.bipush (-2), 2) := by decide +kernel
theorem dX6_worlds_13 : decode cX6_worlds 13 = .ok (.goto 6, 3) := by decide +kernel
theorem dX6_worlds_16 : decode cX6_worlds 16 = .ok (.iconst 1, 1) := by decide +kernel
theorem dX6_worlds_17 : decode cX6_worlds 17 = .ok (.iload_n 1, 1) := by decide +kernel
theorem dX6_worlds_18 : decode cX6_worlds 18 = .ok (.ishl, 1) := by decide +kernel
theorem dX6_worlds_19 : decode cX6_worlds 19 = .ok (.ireturn, 1) := by decide +kernel
theorem dX6_worlds_4 : decode cX6_worlds 4 = .ok (.istore_n 1, 1) := by decide +kernel
theorem dX6_worlds_5 : decode cX6_worlds 5 = .ok (.iload_n 1, 1) := by decide +kernel
theorem dX6_worlds_6 : decode cX6_worlds 6 = .ok (.bipush 12, 2) := by decide +kernel
theorem dX6_worlds_8 : decode cX6_worlds 8 = .ok (.if_icmp .le 8, 3) := by decide +kernel
