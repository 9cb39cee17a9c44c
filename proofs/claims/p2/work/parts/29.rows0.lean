theorem dX6_addToTape_0 : decode cX6_addToTape 0 = .ok (.bipush 24, 2) := by decide +kernel
theorem dX6_addToTape_11 : decode cX6_addToTape 11 = .ok (.sipush 2000, 3) := by decide +kernel
theorem dX6_addToTape_14 : decode cX6_addToTape 14 = .ok (.if_icmp .ge 32, 3) := by decide +kernel
theorem dX6_addToTape_17 : decode cX6_addToTape 17 = .ok (.aload_n 0, 1) := by decide +kernel
theorem dX6_addToTape_18 : decode cX6_addToTape 18 = .ok (.getfield 9, 3) := by decide +kernel
theorem dX6_addToTape_2 : decode cX6_addToTape 2 = .ok (.istore_n 2, 1) := by decide +kernel
theorem dX6_addToTape_21 : decode cX6_addToTape 21 = .ok (.aload_n 0, 1) := by decide +kernel
theorem dX6_addToTape_22 : decode cX6_addToTape 22 = .ok (.getfield 54, 3) := by decide +kernel
theorem dX6_addToTape_25 : decode cX6_addToTape 25 = .ok (.iload_n 1, 1) := by decide +kernel
theorem dX6_addToTape_26 : decode cX6_addToTape 26 = .ok (.iload_n 2, 1) := by decide +kernel
theorem dX6_addToTape_27 : decode cX6_addToTape 27 = .ok (.iushr, 1) := by decide +kernel
theorem dX6_addToTape_28 : decode cX6_addToTape 28 = .ok (.i2b, 1) := by decide +kernel
theorem dX6_addToTape_29 : decode cX6_addToTape 29 = .ok (.bastore, 1) := by decide +kernel
theorem dX6_addToTape_3 : decode cX6_addToTape 3 = .ok (.iload_n 2, 1) := by decide +kernel
theorem dX6_addToTape_30 : decode cX6_addToTape 30 = .ok (.aload_n 0, 1) := by decide +kernel
theorem dX6_addToTape_31 : decode cX6_addToTape 31 = .ok (.dup, 1) := by decide +kernel
theorem dX6_addToTape_32 : decode cX6_addToTape 32 = .ok (.getfield 54, 3) := by decide +kernel
theorem dX6_addToTape_35 : decode cX6_addToTape 35 = .ok (.iconst 1, 1) := by decide +kernel
theorem dX6_addToTape_36 : decode cX6_addToTape 36 = .ok (.iadd, 1) := by decide +kernel
theorem dX6_addToTape_37 : decode cX6_addToTape 37 = .ok (.putfield 54, 3) := by decide +kernel
theorem dX6_addToTape_4 : decode cX6_addToTape 4 = .ok (.ifCond .lt 42, 3) := by decide +kernel
theorem dX6_addToTape_40 : decode cX6_addToTape 40 = .ok (.iinc 2 (-8), 3) := by decide +kernel
theorem dX6_addToTape_43 : decode cX6_addToTape 43 = .ok (.goto (-40), 3) := by decide +kernel
theorem dX6_addToTape_46 : decode cX6_addToTape 46 = .ok (.return_, 1) := by decide +kernel
theorem dX6_addToTape_7 : decode cX6_addToTape 7 = .ok (.aload_n 0, 1) := by decide +kernel
theorem dX6_addToTape_8 : decode cX6_addToTape 8 = .ok (.getfield 54, 3) := by decide +kernel
theorem dX6_end_0 : decode cX6_end 0 = .ok (.iload_n 1, 1) := by decide +kernel
theorem dX6_end_1 : decode cX6_end 1 = .ok (.ifCond .lt 11, 3) := by decide +kernel
theorem dX6_end_12 : decode cX6_end 12 = .ok (.iconst (-1), 1) := by decide +kernel
theorem dX6_end_13 : decode cX6_end 13 = .ok (.ireturn, 1) := by decide +kernel
theorem dX6_end_14 : decode cX6_end 14 = .ok (.aload_n 0, 1) := by decide +kernel
theorem dX6_end_15 : decode cX6_end 15 = .ok (.iload_n 1, 1) := by decide +kernel
theorem dX6_end_16 : decode cX6_end 16 = .ok (.putfield 54, 3) := by decide +kernel
theorem dX6_end_19 : decode cX6_end 19 = .ok (.iload_n 1, 1) := by decide +kernel
theorem dX6_end_20 : decode cX6_end 20 = .ok (.ireturn, 1) := by decide +kernel
theorem dX6_end_4 : decode cX6_end 4 = .ok (.iload_n 1, 1) := by decide +kernel
theorem dX6_end_5 : decode cX6_end 5 = .ok (.aload_n 0, 1) := by decide +kernel
theorem dX6_end_6 : decode cX6_end 6 = .ok (.getfield 54, 3) := by decide +kernel
theorem dX6_end_9 : decode cX6_end 9 = .ok (.if_icmp .le 5, 3) := by decide +kernel
theorem dX6_feed_0 : decode cX6_feed 0 = .ok (.aload_n 0, 1) := by decide +kernel
theorem dX6_feed_1 : decode cX6_feed 1 = .ok (.getfield 54, 3) := by decide +kernel
theorem dX6_feed_10 : decode cX6_feed 10 = .ok (.if_icmp .le 5, 3) := by decide +kernel
theorem dX6_feed_13 : decode cX6_feed 13 = .ok (.iconst (-1), 1) := by decide +kernel
theorem dX6_feed_14 : decode cX6_feed 14 = .ok (.ireturn, 1) := by decide +kernel
theorem dX6_feed_15 : decode cX6_feed 15 = .ok (.aload_n 0, 1) := by decide +kernel
theorem dX6_feed_16 : decode cX6_feed 16 = .ok (.iload_n 1, 1) := by decide +kernel
theorem dX6_feed_17 : decode cX6_feed 17 = .ok (.invokevirtual 58, 3) := by decide +kernel
theorem dX6_feed_20 : decode cX6_feed 20 = .ok (.aload_n 0, 1) := by decide +kernel
theorem dX6_feed_21 : decode cX6_feed 21 = .ok (.iload_n 2, 1) := by decide +kernel
theorem dX6_feed_22 : decode cX6_feed 22 = .ok (.invokevirtual 58, 3) := by decide +kernel
theorem dX6_feed_25 : decode cX6_feed 25 = .ok (.aload_n 0, 1) := by decide +kernel
theorem dX6_feed_26 : decode cX6_feed 26 = .ok (.iload_n 3, 1) := by decide +kernel
theorem dX6_feed_27 : decode cX6_feed 27 = .ok (.invokevirtual 58, 3) := by decide +kernel
theorem dX6_feed_30 : decode cX6_feed 30 = .ok (.aload_n 0, 1) := by decide +kernel
theorem dX6_feed_31 : decode cX6_feed 31 = .ok (.iload 4, 2) := by decide +kernel
theorem dX6_feed_33 : decode cX6_feed 33 = .ok (.invokevirtual 58, 3) := by decide +kernel
theorem dX6_feed_36 : decode cX6_feed 36 = .ok (.aload_n 0, 1) := by decide +kernel
theorem dX6_feed_37 : decode cX6_feed 37 = .ok (.iload 5, 2) := by decide +kernel
theorem dX6_feed_39 : decode cX6_feed 39 = .ok (.invokevirtual 58, 3) := by decide +kernel
theorem dX6_feed_4 : decode cX6_feed 4 = .ok (.bipush 20, 2) := by decide +kernel
theorem dX6_feed_42 : decode cX6_feed 42 = .ok (.aload_n 0, 1) := by decide +kernel
theorem dX6_feed_43 : decode cX6_feed 43 = .ok (.getfield 54, 3) := by decide +kernel
theorem dX6_feed_46 : decode cX6_feed 46 = .ok (.ireturn, 1) := by decide +kernel
theorem dX6_feed_6 : decode cX6_feed 6 = .ok (.iadd, 1) := by decide +kernel
theorem dX6_feed_7 : decode cX6_feed 7 = .ok (.sipush 2000, 3) := by decide +kernel
theorem dX7_end_0 : decode cX7_end 0 = .ok (.iload_n 1, 1) := by decide +kernel
theorem dX7_end_1 : decode cX7_end 1 = .ok (.ifCond .lt 11, 3) := by decide +kernel
theorem dX7_end_12 : decode cX7_end 12 = .ok (.iconst (-1), 1) := by decide +kernel
theorem dX7_end_13 : decode cX7_end 13 = .ok (.ireturn, 1) := by decide +kernel
theorem dX7_end_14 : decode cX7_end 14 = .ok (.aload_n 0, 1) := by decide +kernel
theorem dX7_end_15 : decode cX7_end 15 = .ok (.iload_n 1, 1) := by decide +kernel
theorem dX7_end_16 : decode cX7_end 16 = .ok (.putfield 249, 3) := by decide +kernel
theorem dX7_end_19 : decode cX7_end 19 = .ok (.iload_n 1, 1) := by decide +kernel
theorem dX7_end_20 : decode cX7_end 20 = .ok (.ireturn, 1) := by decide +kernel
theorem dX7_end_4 : decode cX7_end 4 = .ok (.iload_n 1, 1) := by decide +kernel
theorem dX7_end_5 : decode cX7_end 5 = .ok (.aload_n 0, 1) := by decide +kernel
theorem dX7_end_6 : decode cX7_end 6 = .ok (.getfield 249, 3) := by decide +kernel
theorem dX7_end_9 : decode cX7_end 9 = .ok (.if_icmp .le 5, 3) := by decide +kernel
theorem dX7_feed_0 : decode cX7_feed 0 = .ok (.aload_n 0, 1) := by decide +kernel
theorem dX7_feed_1 : decode cX7_feed 1 = .ok (.getfield 249, 3) := by decide +kernel
theorem dX7_feed_10 : decode cX7_feed 10 = .ok (.if_icmp .le 5, 3) := by decide +kernel
theorem dX7_feed_102 : decode cX7_feed 102 = .ok (.goto (-84), 3) := by decide +kernel
theorem dX7_feed_105 : decode cX7_feed 105 = .ok (.aload_n 0, 1) := by decide +kernel
theorem dX7_feed_106 : decode cX7_feed 106 = .ok (.dup, 1) := by decide +kernel
theorem dX7_feed_107 : decode cX7_feed 107 = .ok (.getfield 249, 3) := by decide +kernel
theorem dX7_feed_110 : decode cX7_feed 110 = .ok (.bipush 20, 2) := by decide +kernel
theorem dX7_feed_112 : decode cX7_feed 112 = .ok (.iadd, 1) := by decide +kernel
theorem dX7_feed_113 : decode cX7_feed 113 = .ok (.putfield 249, 3) := by decide +kernel
theorem dX7_feed_116 : decode cX7_feed 116 = .ok (.aload_n 0, 1) := by decide +kernel
theorem dX7_feed_117 : decode cX7_feed 117 = .ok (.getfield 249, 3) := by decide +kernel
theorem dX7_feed_120 : decode cX7_feed 120 = .ok (.ireturn, 1) := by decide +kernel
theorem dX7_feed_13 : decode cX7_feed 13 = .ok (.iconst (-1), 1) := by decide +kernel
theorem dX7_feed_14 : decode cX7_feed 14 = .ok (.ireturn, 1) := by decide +kernel
theorem dX7_feed_15 : decode cX7_feed 15 = .ok (.iconst 0, 1) := by decide +kernel
theorem dX7_feed_16 : decode cX7_feed 16 = .ok (.istore 6, 2) := by decide +kernel
theorem dX7_feed_18 : decode cX7_feed 18 = .ok (.iload 6, 2) := by decide +kernel
theorem dX7_feed_20 : decode cX7_feed 20 = .ok (.bipush 20, 2) := by decide +kernel
theorem dX7_feed_22 : decode cX7_feed 22 = .ok (.if_icmp .ge 83, 3) := by decide +kernel
theorem dX7_feed_25 : decode cX7_feed 25 = .ok (.iload 6, 2) := by decide +kernel
theorem dX7_feed_27 : decode cX7_feed 27 = .ok (.iconst 4, 1) := by decide +kernel
theorem dX7_feed_28 : decode cX7_feed 28 = .ok (.if_icmp .ge 7, 3) := by decide +kernel
theorem dX7_feed_31 : decode cX7_feed 31 = .ok (.iload_n 1, 1) := by decide +kernel
theorem dX7_feed_32 : decode cX7_feed 32 = .ok (.goto 39, 3) := by decide +kernel
theorem dX7_feed_35 : decode cX7_feed 35 = .ok (.iload 6, 2) := by decide +kernel
theorem dX7_feed_37 : decode cX7_feed 37 = .ok (.bipush 8, 2) := by decide +kernel
theorem dX7_feed_39 : decode cX7_feed 39 = .ok (.if_icmp .ge 7, 3) := by decide +kernel
theorem dX7_feed_4 : decode cX7_feed 4 = .ok (.bipush 20, 2) := by decide +kernel
theorem dX7_feed_42 : decode cX7_feed 42 = .ok (.iload_n 2, 1) := by decide +kernel
theorem dX7_feed_43 : decode cX7_feed 43 = .ok (.goto 28, 3) := by decide +kernel
theorem dX7_feed_46 : decode cX7_feed 46 = .ok (.iload 6, 2) := by decide +kernel
theorem dX7_feed_48 : decode cX7_feed 48 = .ok (.bipush 12, 2) := by decide +kernel
theorem dX7_feed_50 : decode cX7_feed 50 = .ok (.if_icmp .ge 7, 3) := by decide +kernel
theorem dX7_feed_53 : decode cX7_feed 53 = .ok (.iload_n 3, 1) := by decide +kernel
theorem dX7_feed_54 : decode cX7_feed 54 = .ok (.goto 17, 3) := by decide +kernel
theorem dX7_feed_57 : decode cX7_feed 57 = .ok (.iload 6, 2) := by decide +kernel
theorem dX7_feed_59 : decode cX7_feed 59 = .ok (.bipush 16, 2) := by decide +kernel
theorem dX7_feed_6 : decode cX7_feed 6 = .ok (.iadd, 1) := by decide +kernel
theorem dX7_feed_61 : decode cX7_feed 61 = .ok (.if_icmp .ge 8, 3) := by decide +kernel
theorem dX7_feed_64 : decode cX7_feed 64 = .ok (.iload 4, 2) := by decide +kernel
theorem dX7_feed_66 : decode cX7_feed 66 = .ok (.goto 5, 3) := by decide +kernel
theorem dX7_feed_69 : decode cX7_feed 69 = .ok (.iload 5, 2) := by decide +kernel
theorem dX7_feed_7 : decode cX7_feed 7 = .ok (.sipush 2000, 3) := by decide +kernel
theorem dX7_feed_71 : decode cX7_feed 71 = .ok (.istore 7, 2) := by decide +kernel
theorem dX7_feed_73 : decode cX7_feed 73 = .ok (.aload_n 0, 1) := by decide +kernel
theorem dX7_feed_74 : decode cX7_feed 74 = .ok (.getfield 7, 3) := by decide +kernel
theorem dX7_feed_77 : decode cX7_feed 77 = .ok (.aload_n 0, 1) := by decide +kernel
theorem dX7_feed_78 : decode cX7_feed 78 = .ok (.getfield 249, 3) := by decide +kernel
theorem dX7_feed_81 : decode cX7_feed 81 = .ok (.iload 6, 2) := by decide +kernel
theorem dX7_feed_83 : decode cX7_feed 83 = .ok (.iadd, 1) := by decide +kernel
theorem dX7_feed_84 : decode cX7_feed 84 = .ok (.iload 7, 2) := by decide +kernel
theorem dX7_feed_86 : decode cX7_feed 86 = .ok (.bipush 24, 2) := by decide +kernel
theorem dX7_feed_88 : decode cX7_feed 88 = .ok (.bipush 8, 2) := by decide +kernel
theorem dX7_feed_90 : decode cX7_feed 90 = .ok (.iload 6, 2) := by decide +kernel
theorem dX7_feed_92 : decode cX7_feed 92 = .ok (.iconst 3, 1) := by decide +kernel
theorem dX7_feed_93 : decode cX7_feed 93 = .ok (.iand, 1) := by decide +kernel
theorem dX7_feed_94 : decode cX7_feed 94 = .ok (.imul, 1) := by decide +kernel
theorem dX7_feed_95 : decode cX7_feed 95 = .ok (.isub, 1) := by decide +kernel
theorem dX7_feed_96 : decode cX7_feed 96 = .ok (.ishr, 1) := by decide +kernel
theorem dX7_feed_97 : decode cX7_feed 97 = .ok (.i2b, 1) := by decide +kernel
theorem dX7_feed_98 : decode cX7_feed 98 = .ok (.bastore, 1) := by decide +kernel
theorem dX7_feed_99 : decode cX7_feed 99 = .ok (.iinc 6 1, 3) := by decide +kernel
theorem dX7_hangsOnItself_0 : decode cX7_hangsOnItself 0 = .ok (.iconst 0, 1) := by decide +kernel
theorem dX7_hangsOnItself_1 : decode cX7_hangsOnItself 1 = .ok (.istore_n 2, 1) := by decide +kernel
theorem dX7_hangsOnItself_10 : decode cX7_hangsOnItself 10 = .ok (.aload_n 0, 1) := by decide +kernel
theorem dX7_hangsOnItself_11 : decode cX7_hangsOnItself 11 = .ok (.getfield 68, 3) := by decide +kernel
theorem dX7_hangsOnItself_14 : decode cX7_hangsOnItself 14 = .ok (.iload_n 2, 1) := by decide +kernel
theorem dX7_hangsOnItself_15 : decode cX7_hangsOnItself 15 = .ok (.iconst 0, 1) := by decide +kernel
theorem dX7_hangsOnItself_16 : decode cX7_hangsOnItself 16 = .ok (.bastore, 1) := by decide +kernel
theorem dX7_hangsOnItself_17 : decode cX7_hangsOnItself 17 = .ok (.iinc 2 1, 3) := by decide +kernel
theorem dX7_hangsOnItself_2 : decode cX7_hangsOnItself 2 = .ok (.iload_n 2, 1) := by decide +kernel
theorem dX7_hangsOnItself_20 : decode cX7_hangsOnItself 20 = .ok (.goto (-18), 3) := by decide +kernel
theorem dX7_hangsOnItself_23 : decode cX7_hangsOnItself 23 = .ok (.aload_n 0, 1) := by decide +kernel
theorem dX7_hangsOnItself_24 : decode cX7_hangsOnItself 24 = .ok (.iload_n 1, 1) := by decide +kernel
theorem dX7_hangsOnItself_25 : decode cX7_hangsOnItself 25 = .ok (.invokevirtual 246, 3) := by decide +kernel
theorem dX7_hangsOnItself_28 : decode cX7_hangsOnItself 28 = .ok (.iconst 0, 1) := by decide +kernel
theorem dX7_hangsOnItself_29 : decode cX7_hangsOnItself 29 = .ok (.istore_n 2, 1) := by decide +kernel
theorem dX7_hangsOnItself_3 : decode cX7_hangsOnItself 3 = .ok (.aload_n 0, 1) := by decide +kernel
theorem dX7_hangsOnItself_30 : decode cX7_hangsOnItself 30 = .ok (.iload_n 2, 1) := by decide +kernel
theorem dX7_hangsOnItself_31 : decode cX7_hangsOnItself 31 = .ok (.aload_n 0, 1) := by decide +kernel
theorem dX7_hangsOnItself_32 : decode cX7_hangsOnItself 32 = .ok (.getfield 185, 3) := by decide +kernel
theorem dX7_hangsOnItself_35 : decode cX7_hangsOnItself 35 = .ok (.if_icmp .ge 39, 3) := by decide +kernel
theorem dX7_hangsOnItself_38 : decode cX7_hangsOnItself 38 = .ok (.iconst 0, 1) := by decide +kernel
theorem dX7_hangsOnItself_39 : decode cX7_hangsOnItself 39 = .ok (.istore_n 3, 1) := by decide +kernel
theorem dX7_hangsOnItself_4 : decode cX7_hangsOnItself 4 = .ok (.getfield 185, 3) := by decide +kernel
theorem dX7_hangsOnItself_40 : decode cX7_hangsOnItself 40 = .ok (.iload_n 3, 1) := by decide +kernel
theorem dX7_hangsOnItself_41 : decode cX7_hangsOnItself 41 = .ok (.aload_n 0, 1) := by decide +kernel
theorem dX7_hangsOnItself_42 : decode cX7_hangsOnItself 42 = .ok (.getfield 185, 3) := by decide +kernel
theorem dX7_hangsOnItself_45 : decode cX7_hangsOnItself 45 = .ok (.if_icmp .ge 23, 3) := by decide +kernel
theorem dX7_hangsOnItself_48 : decode cX7_hangsOnItself 48 = .ok (.aload_n 0, 1) := by decide +kernel
theorem dX7_hangsOnItself_49 : decode cX7_hangsOnItself 49 = .ok (.getfield 68, 3) := by decide +kernel
theorem dX7_hangsOnItself_52 : decode cX7_hangsOnItself 52 = .ok (.iload_n 3, 1) := by decide +kernel
theorem dX7_hangsOnItself_53 : decode cX7_hangsOnItself 53 = .ok (.baload, 1) := by decide +kernel
theorem dX7_hangsOnItself_54 : decode cX7_hangsOnItself 54 = .ok (.ifCond .eq 8, 3) := by decide +kernel
theorem dX7_hangsOnItself_57 : decode cX7_hangsOnItself 57 = .ok (.aload_n 0, 1) := by decide +kernel
theorem dX7_hangsOnItself_58 : decode cX7_hangsOnItself 58 = .ok (.iload_n 3, 1) := by decide +kernel
theorem dX7_hangsOnItself_59 : decode cX7_hangsOnItself 59 = .ok (.invokevirtual 246, 3) := by decide +kernel
theorem dX7_hangsOnItself_62 : decode cX7_hangsOnItself 62 = .ok (.iinc 3 1, 3) := by decide +kernel
theorem dX7_hangsOnItself_65 : decode cX7_hangsOnItself 65 = .ok (.goto (-25), 3) := by decide +kernel
theorem dX7_hangsOnItself_68 : decode cX7_hangsOnItself 68 = .ok (.iinc 2 1, 3) := by decide +kernel
theorem dX7_hangsOnItself_7 : decode cX7_hangsOnItself 7 = .ok (.if_icmp .ge 16, 3) := by decide +kernel
theorem dX7_hangsOnItself_71 : decode cX7_hangsOnItself 71 = .ok (.goto (-41), 3) := by decide +kernel
theorem dX7_hangsOnItself_74 : decode cX7_hangsOnItself 74 = .ok (.aload_n 0, 1) := by decide +kernel
theorem dX7_hangsOnItself_75 : decode cX7_hangsOnItself 75 = .ok (.getfield 68, 3) := by decide +kernel
theorem dX7_hangsOnItself_78 : decode cX7_hangsOnItself 78 = .ok (.iload_n 1, 1) := by decide +kernel
theorem dX7_hangsOnItself_79 : decode cX7_hangsOnItself 79 = .ok (.baload, 1) := by decide +kernel
theorem dX7_hangsOnItself_80 : decode cX7_hangsOnItself 80 = .ok (.ireturn, 1) := by decide +kernel
theorem dX7_hangs_0 : decode cX7_hangs 0 = .ok (.aload_n 0, 1) := by decide +kernel
theorem dX7_hangs_1 : decode cX7_hangs 1 = .ok (.getfield 24, 3) := by decide +kernel
theorem dX7_hangs_10 : decode cX7_hangs 10 = .ok (.aload_n 0, 1) := by decide +kernel
theorem dX7_hangs_11 : decode cX7_hangs 11 = .ok (.getfield 31, 3) := by decide +kernel
theorem dX7_hangs_14 : decode cX7_hangs 14 = .ok (.iload_n 1, 1) := by decide +kernel
theorem dX7_hangs_15 : decode cX7_hangs 15 = .ok (.iaload, 1) := by decide +kernel
theorem dX7_hangs_16 : decode cX7_hangs 16 = .ok (.goto 25, 3) := by decide +kernel
theorem dX7_hangs_19 : decode cX7_hangs 19 = .ok (.aload_n 0, 1) := by decide +kernel
theorem dX7_hangs_20 : decode cX7_hangs 20 = .ok (.getfield 24, 3) := by decide +kernel
theorem dX7_hangs_23 : decode cX7_hangs 23 = .ok (.iload_n 1, 1) := by decide +kernel
theorem dX7_hangs_24 : decode cX7_hangs 24 = .ok (.iaload, 1) := by decide +kernel
theorem dX7_hangs_25 : decode cX7_hangs 25 = .ok (.iconst 1, 1) := by decide +kernel
theorem dX7_hangs_26 : decode cX7_hangs 26 = .ok (.if_icmp .ne 14, 3) := by decide +kernel
theorem dX7_hangs_29 : decode cX7_hangs 29 = .ok (.iconst 2, 1) := by decide +kernel
theorem dX7_hangs_30 : decode cX7_hangs 30 = .ok (.aload_n 0, 1) := by decide +kernel
theorem dX7_hangs_31 : decode cX7_hangs 31 = .ok (.getfield 31, 3) := by decide +kernel
theorem dX7_hangs_34 : decode cX7_hangs 34 = .ok (.iload_n 1, 1) := by decide +kernel
theorem dX7_hangs_35 : decode cX7_hangs 35 = .ok (.iaload, 1) := by decide +kernel
theorem dX7_hangs_36 : decode cX7_hangs 36 = .ok (.imul, 1) := by decide +kernel
theorem dX7_hangs_37 : decode cX7_hangs 37 = .ok (.goto 4, 3) := by decide +kernel
theorem dX7_hangs_4 : decode cX7_hangs 4 = .ok (.iload_n 1, 1) := by decide +kernel
theorem dX7_hangs_40 : decode cX7_hangs 40 = .ok (.iconst 0, 1) := by decide +kernel
theorem dX7_hangs_41 : decode cX7_hangs 41 = .ok (.ireturn, 1) := by decide +kernel
theorem dX7_hangs_5 : decode cX7_hangs 5 = .ok (.iaload, 1) := by decide +kernel
theorem dX7_hangs_6 : decode cX7_hangs 6 = .ok (.iconst 2, 1) := by decide +kernel
theorem dX7_hangs_7 : decode cX7_hangs 7 = .ok (.if_icmp .ne 12, 3) := by decide +kernel
theorem dX7_lead_0 : decode cX7_lead 0 = .ok (.bipush 60, 2) := by decide +kernel
theorem dX7_lead_10 : decode cX7_lead 10 = .ok (.iconst 0, 1) := by decide +kernel
theorem dX7_lead_11 : decode cX7_lead 11 = .ok (.istore_n 3, 1) := by decide +kernel
theorem dX7_lead_12 : decode cX7_lead 12 = .ok (.iload_n 3, 1) := by decide +kernel
theorem dX7_lead_13 : decode cX7_lead 13 = .ok (.aload_n 0, 1) := by decide +kernel
theorem dX7_lead_14 : decode cX7_lead 14 = .ok (.iload_n 2, 1) := by decide +kernel
theorem dX7_lead_15 : decode cX7_lead 15 = .ok (.invokevirtual 240, 3) := by decide +kernel
theorem dX7_lead_18 : decode cX7_lead 18 = .ok (.if_icmp .ge 26, 3) := by decide +kernel
theorem dX7_lead_2 : decode cX7_lead 2 = .ok (.aload_n 0, 1) := by decide +kernel
theorem dX7_lead_21 : decode cX7_lead 21 = .ok (.aload_n 0, 1) := by decide +kernel
theorem dX7_lead_22 : decode cX7_lead 22 = .ok (.getfield 68, 3) := by decide +kernel
theorem dX7_lead_25 : decode cX7_lead 25 = .ok (.aload_n 0, 1) := by decide +kernel
theorem dX7_lead_26 : decode cX7_lead 26 = .ok (.getfield 37, 3) := by decide +kernel
theorem dX7_lead_29 : decode cX7_lead 29 = .ok (.bipush 12, 2) := by decide +kernel
theorem dX7_lead_3 : decode cX7_lead 3 = .ok (.getfield 188, 3) := by decide +kernel
theorem dX7_lead_31 : decode cX7_lead 31 = .ok (.iload_n 2, 1) := by decide +kernel
theorem dX7_lead_32 : decode cX7_lead 32 = .ok (.imul, 1) := by decide +kernel
theorem dX7_lead_33 : decode cX7_lead 33 = .ok (.iload_n 3, 1) := by decide +kernel
theorem dX7_lead_34 : decode cX7_lead 34 = .ok (.iadd, 1) := by decide +kernel
theorem dX7_lead_35 : decode cX7_lead 35 = .ok (.iaload, 1) := by decide +kernel
theorem dX7_lead_36 : decode cX7_lead 36 = .ok (.iconst 1, 1) := by decide +kernel
theorem dX7_lead_37 : decode cX7_lead 37 = .ok (.bastore, 1) := by decide +kernel
theorem dX7_lead_38 : decode cX7_lead 38 = .ok (.iinc 3 1, 3) := by decide +kernel
theorem dX7_lead_41 : decode cX7_lead 41 = .ok (.goto (-29), 3) := by decide +kernel
theorem dX7_lead_44 : decode cX7_lead 44 = .ok (.return_, 1) := by decide +kernel
theorem dX7_lead_6 : decode cX7_lead 6 = .ok (.imul, 1) := by decide +kernel
theorem dX7_lead_7 : decode cX7_lead 7 = .ok (.iload_n 1, 1) := by decide +kernel
theorem dX7_lead_8 : decode cX7_lead 8 = .ok (.iadd, 1) := by decide +kernel
theorem dX7_lead_9 : decode cX7_lead 9 = .ok (.istore_n 2, 1) := by decide +kernel
theorem dX7_levels_0 : decode cX7_levels 0 = .ok (.iconst 0, 1) := by decide +kernel
theorem dX7_levels_1 : decode cX7_levels 1 = .ok (.istore_n 1, 1) := by decide +kernel
theorem dX7_levels_10 : decode cX7_levels 10 = .ok (.aload_n 0, 1) := by decide +kernel
theorem dX7_levels_100 : decode cX7_levels 100 = .ok (.aload_n 0, 1) := by decide +kernel
theorem dX7_levels_101 : decode cX7_levels 101 = .ok (.getfield 188, 3) := by decide +kernel
theorem dX7_levels_104 : decode cX7_levels 104 = .ok (.imul, 1) := by decide +kernel
theorem dX7_levels_105 : decode cX7_levels 105 = .ok (.aload_n 0, 1) := by decide +kernel
theorem dX7_levels_106 : decode cX7_levels 106 = .ok (.getfield 37, 3) := by decide +kernel
theorem dX7_levels_109 : decode cX7_levels 109 = .ok (.bipush 12, 2) := by decide +kernel
theorem dX7_levels_11 : decode cX7_levels 11 = .ok (.getfield 40, 3) := by decide +kernel
theorem dX7_levels_111 : decode cX7_levels 111 = .ok (.iload_n 3, 1) := by decide +kernel
theorem dX7_levels_112 : decode cX7_levels 112 = .ok (.imul, 1) := by decide +kernel
theorem dX7_levels_113 : decode cX7_levels 113 = .ok (.iload 5, 2) := by decide +kernel
theorem dX7_levels_115 : decode cX7_levels 115 = .ok (.iadd, 1) := by decide +kernel
theorem dX7_levels_116 : decode cX7_levels 116 = .ok (.iaload, 1) := by decide +kernel
theorem dX7_levels_117 : decode cX7_levels 117 = .ok (.iadd, 1) := by decide +kernel
theorem dX7_levels_118 : decode cX7_levels 118 = .ok (.iaload, 1) := by decide +kernel
theorem dX7_levels_119 : decode cX7_levels 119 = .ok (.istore 6, 2) := by decide +kernel
theorem dX7_levels_121 : decode cX7_levels 121 = .ok (.iload 6, 2) := by decide +kernel
theorem dX7_levels_123 : decode cX7_levels 123 = .ok (.ifCond .ge 7, 3) := by decide +kernel
theorem dX7_levels_126 : decode cX7_levels 126 = .ok (.iconst (-1), 1) := by decide +kernel
theorem dX7_levels_127 : decode cX7_levels 127 = .ok (.goto 21, 3) := by decide +kernel
theorem dX7_levels_130 : decode cX7_levels 130 = .ok (.iload 6, 2) := by decide +kernel
theorem dX7_levels_132 : decode cX7_levels 132 = .ok (.iconst 1, 1) := by decide +kernel
theorem dX7_levels_133 : decode cX7_levels 133 = .ok (.iadd, 1) := by decide +kernel
theorem dX7_levels_134 : decode cX7_levels 134 = .ok (.iload 4, 2) := by decide +kernel
theorem dX7_levels_136 : decode cX7_levels 136 = .ok (.if_icmp .le 10, 3) := by decide +kernel
theorem dX7_levels_139 : decode cX7_levels 139 = .ok (.iload 6, 2) := by decide +kernel
theorem dX7_levels_14 : decode cX7_levels 14 = .ok (.bipush 60, 2) := by decide +kernel
theorem dX7_levels_141 : decode cX7_levels 141 = .ok (.iconst 1, 1) := by decide +kernel
theorem dX7_levels_142 : decode cX7_levels 142 = .ok (.iadd, 1) := by decide +kernel
theorem dX7_levels_143 : decode cX7_levels 143 = .ok (.goto 5, 3) := by decide +kernel
theorem dX7_levels_146 : decode cX7_levels 146 = .ok (.iload 4, 2) := by decide +kernel
theorem dX7_levels_148 : decode cX7_levels 148 = .ok (.istore 4, 2) := by decide +kernel
theorem dX7_levels_150 : decode cX7_levels 150 = .ok (.iinc 5 1, 3) := by decide +kernel
theorem dX7_levels_153 : decode cX7_levels 153 = .ok (.goto (-74), 3) := by decide +kernel
theorem dX7_levels_156 : decode cX7_levels 156 = .ok (.aload_n 0, 1) := by decide +kernel
theorem dX7_levels_157 : decode cX7_levels 157 = .ok (.getfield 40, 3) := by decide +kernel
theorem dX7_levels_16 : decode cX7_levels 16 = .ok (.aload_n 0, 1) := by decide +kernel
theorem dX7_levels_160 : decode cX7_levels 160 = .ok (.iload_n 3, 1) := by decide +kernel
theorem dX7_levels_161 : decode cX7_levels 161 = .ok (.iload 4, 2) := by decide +kernel
theorem dX7_levels_163 : decode cX7_levels 163 = .ok (.iastore, 1) := by decide +kernel
theorem dX7_levels_164 : decode cX7_levels 164 = .ok (.iinc 2 1, 3) := by decide +kernel
theorem dX7_levels_167 : decode cX7_levels 167 = .ok (.goto (-124), 3) := by decide +kernel
theorem dX7_levels_17 : decode cX7_levels 17 = .ok (.getfield 188, 3) := by decide +kernel
theorem dX7_levels_170 : decode cX7_levels 170 = .ok (.iinc 1 1, 3) := by decide +kernel
theorem dX7_levels_173 : decode cX7_levels 173 = .ok (.goto (-140), 3) := by decide +kernel
theorem dX7_levels_176 : decode cX7_levels 176 = .ok (.iconst 0, 1) := by decide +kernel
theorem dX7_levels_177 : decode cX7_levels 177 = .ok (.istore_n 1, 1) := by decide +kernel
theorem dX7_levels_178 : decode cX7_levels 178 = .ok (.iload_n 1, 1) := by decide +kernel
theorem dX7_levels_179 : decode cX7_levels 179 = .ok (.aload_n 0, 1) := by decide +kernel
theorem dX7_levels_180 : decode cX7_levels 180 = .ok (.getfield 185, 3) := by decide +kernel
theorem dX7_levels_183 : decode cX7_levels 183 = .ok (.if_icmp .ge 52, 3) := by decide +kernel
theorem dX7_levels_186 : decode cX7_levels 186 = .ok (.aload_n 0, 1) := by decide +kernel
theorem dX7_levels_187 : decode cX7_levels 187 = .ok (.invokevirtual 191, 3) := by decide +kernel
theorem dX7_levels_190 : decode cX7_levels 190 = .ok (.ifCond .eq 45, 3) := by decide +kernel
theorem dX7_levels_193 : decode cX7_levels 193 = .ok (.aload_n 0, 1) := by decide +kernel
theorem dX7_levels_194 : decode cX7_levels 194 = .ok (.getfield 40, 3) := by decide +kernel
theorem dX7_levels_197 : decode cX7_levels 197 = .ok (.bipush 60, 2) := by decide +kernel
theorem dX7_levels_199 : decode cX7_levels 199 = .ok (.aload_n 0, 1) := by decide +kernel
theorem dX7_levels_2 : decode cX7_levels 2 = .ok (.iload_n 1, 1) := by decide +kernel
theorem dX7_levels_20 : decode cX7_levels 20 = .ok (.imul, 1) := by decide +kernel
theorem dX7_levels_200 : decode cX7_levels 200 = .ok (.getfield 188, 3) := by decide +kernel
theorem dX7_levels_203 : decode cX7_levels 203 = .ok (.imul, 1) := by decide +kernel
theorem dX7_levels_204 : decode cX7_levels 204 = .ok (.iload_n 1, 1) := by decide +kernel
theorem dX7_levels_205 : decode cX7_levels 205 = .ok (.iadd, 1) := by decide +kernel
theorem dX7_levels_206 : decode cX7_levels 206 = .ok (.iaload, 1) := by decide +kernel
theorem dX7_levels_207 : decode cX7_levels 207 = .ok (.ifCond .ge 22, 3) := by decide +kernel
theorem dX7_levels_21 : decode cX7_levels 21 = .ok (.iload_n 1, 1) := by decide +kernel
theorem dX7_levels_210 : decode cX7_levels 210 = .ok (.aload_n 0, 1) := by decide +kernel
theorem dX7_levels_211 : decode cX7_levels 211 = .ok (.iload_n 1, 1) := by decide +kernel
theorem dX7_levels_212 : decode cX7_levels 212 = .ok (.invokevirtual 243, 3) := by decide +kernel
theorem dX7_levels_215 : decode cX7_levels 215 = .ok (.ifCond .eq 14, 3) := by decide +kernel
theorem dX7_levels_218 : decode cX7_levels 218 = .ok (.aload_n 0, 1) := by decide +kernel
theorem dX7_levels_219 : decode cX7_levels 219 = .ok (.iconst 5, 1) := by decide +kernel
theorem dX7_levels_22 : decode cX7_levels 22 = .ok (.iadd, 1) := by decide +kernel
theorem dX7_levels_220 : decode cX7_levels 220 = .ok (.aload_n 0, 1) := by decide +kernel
theorem dX7_levels_221 : decode cX7_levels 221 = .ok (.getfield 43, 3) := by decide +kernel
theorem dX7_levels_224 : decode cX7_levels 224 = .ok (.iload_n 1, 1) := by decide +kernel
theorem dX7_levels_225 : decode cX7_levels 225 = .ok (.iaload, 1) := by decide +kernel
theorem dX7_levels_226 : decode cX7_levels 226 = .ok (.invokevirtual 172, 3) := by decide +kernel
theorem dX7_levels_229 : decode cX7_levels 229 = .ok (.iinc 1 1, 3) := by decide +kernel
theorem dX7_levels_23 : decode cX7_levels 23 = .ok (.iconst (-1), 1) := by decide +kernel
theorem dX7_levels_232 : decode cX7_levels 232 = .ok (.goto (-54), 3) := by decide +kernel
theorem dX7_levels_235 : decode cX7_levels 235 = .ok (.return_, 1) := by decide +kernel
theorem dX7_levels_24 : decode cX7_levels 24 = .ok (.iastore, 1) := by decide +kernel
theorem dX7_levels_25 : decode cX7_levels 25 = .ok (.iinc 1 1, 3) := by decide +kernel
theorem dX7_levels_28 : decode cX7_levels 28 = .ok (.goto (-26), 3) := by decide +kernel
theorem dX7_levels_3 : decode cX7_levels 3 = .ok (.aload_n 0, 1) := by decide +kernel
theorem dX7_levels_31 : decode cX7_levels 31 = .ok (.iconst 0, 1) := by decide +kernel
theorem dX7_levels_32 : decode cX7_levels 32 = .ok (.istore_n 1, 1) := by decide +kernel
theorem dX7_levels_33 : decode cX7_levels 33 = .ok (.iload_n 1, 1) := by decide +kernel
theorem dX7_levels_34 : decode cX7_levels 34 = .ok (.aload_n 0, 1) := by decide +kernel
theorem dX7_levels_35 : decode cX7_levels 35 = .ok (.getfield 185, 3) := by decide +kernel
theorem dX7_levels_38 : decode cX7_levels 38 = .ok (.if_icmp .gt 138, 3) := by decide +kernel
theorem dX7_levels_4 : decode cX7_levels 4 = .ok (.getfield 185, 3) := by decide +kernel
theorem dX7_levels_41 : decode cX7_levels 41 = .ok (.iconst 0, 1) := by decide +kernel
theorem dX7_levels_42 : decode cX7_levels 42 = .ok (.istore_n 2, 1) := by decide +kernel
theorem dX7_levels_43 : decode cX7_levels 43 = .ok (.iload_n 2, 1) := by decide +kernel
theorem dX7_levels_44 : decode cX7_levels 44 = .ok (.aload_n 0, 1) := by decide +kernel
theorem dX7_levels_45 : decode cX7_levels 45 = .ok (.getfield 185, 3) := by decide +kernel
theorem dX7_levels_48 : decode cX7_levels 48 = .ok (.if_icmp .ge 122, 3) := by decide +kernel
theorem dX7_levels_51 : decode cX7_levels 51 = .ok (.bipush 60, 2) := by decide +kernel
theorem dX7_levels_53 : decode cX7_levels 53 = .ok (.aload_n 0, 1) := by decide +kernel
theorem dX7_levels_54 : decode cX7_levels 54 = .ok (.getfield 188, 3) := by decide +kernel
theorem dX7_levels_57 : decode cX7_levels 57 = .ok (.imul, 1) := by decide +kernel
theorem dX7_levels_58 : decode cX7_levels 58 = .ok (.iload_n 2, 1) := by decide +kernel
theorem dX7_levels_59 : decode cX7_levels 59 = .ok (.iadd, 1) := by decide +kernel
theorem dX7_levels_60 : decode cX7_levels 60 = .ok (.istore_n 3, 1) := by decide +kernel
theorem dX7_levels_61 : decode cX7_levels 61 = .ok (.aload_n 0, 1) := by decide +kernel
theorem dX7_levels_62 : decode cX7_levels 62 = .ok (.getfield 40, 3) := by decide +kernel
theorem dX7_levels_65 : decode cX7_levels 65 = .ok (.iload_n 3, 1) := by decide +kernel
theorem dX7_levels_66 : decode cX7_levels 66 = .ok (.iaload, 1) := by decide +kernel
theorem dX7_levels_67 : decode cX7_levels 67 = .ok (.ifCond .lt 6, 3) := by decide +kernel
theorem dX7_levels_7 : decode cX7_levels 7 = .ok (.if_icmp .ge 24, 3) := by decide +kernel
theorem dX7_levels_70 : decode cX7_levels 70 = .ok (.goto 94, 3) := by decide +kernel
theorem dX7_levels_73 : decode cX7_levels 73 = .ok (.iconst 0, 1) := by decide +kernel
theorem dX7_levels_74 : decode cX7_levels 74 = .ok (.istore 4, 2) := by decide +kernel
theorem dX7_levels_76 : decode cX7_levels 76 = .ok (.iconst 0, 1) := by decide +kernel
theorem dX7_levels_77 : decode cX7_levels 77 = .ok (.istore 5, 2) := by decide +kernel
theorem dX7_levels_79 : decode cX7_levels 79 = .ok (.iload 5, 2) := by decide +kernel
theorem dX7_levels_81 : decode cX7_levels 81 = .ok (.aload_n 0, 1) := by decide +kernel
theorem dX7_levels_82 : decode cX7_levels 82 = .ok (.iload_n 3, 1) := by decide +kernel
theorem dX7_levels_83 : decode cX7_levels 83 = .ok (.invokevirtual 240, 3) := by decide +kernel
theorem dX7_levels_86 : decode cX7_levels 86 = .ok (.if_icmp .ge 70, 3) := by decide +kernel
theorem dX7_levels_89 : decode cX7_levels 89 = .ok (.iload 4, 2) := by decide +kernel
theorem dX7_levels_91 : decode cX7_levels 91 = .ok (.ifCond .lt 65, 3) := by decide +kernel
theorem dX7_levels_94 : decode cX7_levels 94 = .ok (.aload_n 0, 1) := by decide +kernel
theorem dX7_levels_95 : decode cX7_levels 95 = .ok (.getfield 40, 3) := by decide +kernel
theorem dX7_levels_98 : decode cX7_levels 98 = .ok (.bipush 60, 2) := by decide +kernel
