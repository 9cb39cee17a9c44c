theorem dX7_about_0 : decode cX7_about 0 = .ok (.aload_n 0, 1) := by decide +kernel
theorem dX7_about_1 : decode cX7_about 1 = .ok (.invokevirtual 310, 3) := by decide +kernel
theorem dX7_about_101 : decode cX7_about 101 = .ok (.aload_n 0, 1) := by decide +kernel
theorem dX7_about_102 : decode cX7_about 102 = .ok (.getfield 319, 3) := by decide +kernel
theorem dX7_about_105 : decode cX7_about 105 = .ok (.goto 4, 3) := by decide +kernel
theorem dX7_about_108 : decode cX7_about 108 = .ok (.iconst (-1), 1) := by decide +kernel
theorem dX7_about_109 : decode cX7_about 109 = .ok (.ireturn, 1) := by decide +kernel
theorem dX7_about_110 : decode cX7_about 110 = .ok (.aload_n 0, 1) := by decide +kernel
theorem dX7_about_111 : decode cX7_about 111 = .ok (.getfield 304, 3) := by decide +kernel
theorem dX7_about_114 : decode cX7_about 114 = .ok (.ireturn, 1) := by decide +kernel
theorem dX7_about_115 : decode cX7_about 115 = .ok (.iconst (-1), 1) := by decide +kernel
theorem dX7_about_116 : decode cX7_about 116 = .ok (.ireturn, 1) := by decide +kernel
theorem dX7_about_4 : decode cX7_about 4 = .ok (.iload_n 1, 1) := by decide +kernel
theorem dX7_about_44 : decode cX7_about 44 = .ok (.aload_n 0, 1) := by decide +kernel
theorem dX7_about_45 : decode cX7_about 45 = .ok (.getfield 261, 3) := by decide +kernel
theorem dX7_about_48 : decode cX7_about 48 = .ok (.ireturn, 1) := by decide +kernel
theorem dX7_about_49 : decode cX7_about 49 = .ok (.aload_n 0, 1) := by decide +kernel
theorem dX7_about_5 : decode cX7_about 5 = .ok (.tableswitch 110 0 5 #[39, 44, 49, 65, 89, 105], 39) := by decide +kernel
theorem dX7_about_50 : decode cX7_about 50 = .ok (.getfield 264, 3) := by decide +kernel
theorem dX7_about_53 : decode cX7_about 53 = .ok (.ireturn, 1) := by decide +kernel
theorem dX7_about_54 : decode cX7_about 54 = .ok (.aload_n 0, 1) := by decide +kernel
theorem dX7_about_55 : decode cX7_about 55 = .ok (.getfield 267, 3) := by decide +kernel
theorem dX7_about_58 : decode cX7_about 58 = .ok (.ifCond .eq 10, 3) := by decide +kernel
theorem dX7_about_61 : decode cX7_about 61 = .ok (.aload_n 0, 1) := by decide +kernel
theorem dX7_about_62 : decode cX7_about 62 = .ok (.getfield 316, 3) := by decide +kernel
theorem dX7_about_65 : decode cX7_about 65 = .ok (.goto 4, 3) := by decide +kernel
theorem dX7_about_68 : decode cX7_about 68 = .ok (.iconst (-1), 1) := by decide +kernel
theorem dX7_about_69 : decode cX7_about 69 = .ok (.ireturn, 1) := by decide +kernel
theorem dX7_about_70 : decode cX7_about 70 = .ok (.aload_n 0, 1) := by decide +kernel
theorem dX7_about_71 : decode cX7_about 71 = .ok (.getfield 267, 3) := by decide +kernel
theorem dX7_about_74 : decode cX7_about 74 = .ok (.ifCond .ne 7, 3) := by decide +kernel
theorem dX7_about_77 : decode cX7_about 77 = .ok (.iconst (-1), 1) := by decide +kernel
theorem dX7_about_78 : decode cX7_about 78 = .ok (.goto 15, 3) := by decide +kernel
theorem dX7_about_81 : decode cX7_about 81 = .ok (.aload_n 0, 1) := by decide +kernel
theorem dX7_about_82 : decode cX7_about 82 = .ok (.invokevirtual 332, 3) := by decide +kernel
theorem dX7_about_85 : decode cX7_about 85 = .ok (.ifCond .eq 7, 3) := by decide +kernel
theorem dX7_about_88 : decode cX7_about 88 = .ok (.iconst 1, 1) := by decide +kernel
theorem dX7_about_89 : decode cX7_about 89 = .ok (.goto 4, 3) := by decide +kernel
theorem dX7_about_92 : decode cX7_about 92 = .ok (.iconst 0, 1) := by decide +kernel
theorem dX7_about_93 : decode cX7_about 93 = .ok (.ireturn, 1) := by decide +kernel
theorem dX7_about_94 : decode cX7_about 94 = .ok (.aload_n 0, 1) := by decide +kernel
theorem dX7_about_95 : decode cX7_about 95 = .ok (.getfield 267, 3) := by decide +kernel
theorem dX7_about_98 : decode cX7_about 98 = .ok (.ifCond .eq 10, 3) := by decide +kernel
theorem dX7_ask_0 : decode cX7_ask 0 = .ok (.aload_n 0, 1) := by decide +kernel
theorem dX7_ask_1 : decode cX7_ask 1 = .ok (.getfield 141, 3) := by decide +kernel
theorem dX7_ask_12 : decode cX7_ask 12 = .ok (.aload_n 0, 1) := by decide +kernel
theorem dX7_ask_13 : decode cX7_ask 13 = .ok (.invokevirtual 191, 3) := by decide +kernel
theorem dX7_ask_16 : decode cX7_ask 16 = .ok (.ifCond .ne 4, 3) := by decide +kernel
theorem dX7_ask_19 : decode cX7_ask 19 = .ok (.return_, 1) := by decide +kernel
theorem dX7_ask_20 : decode cX7_ask 20 = .ok (.aload_n 0, 1) := by decide +kernel
theorem dX7_ask_21 : decode cX7_ask 21 = .ok (.getfield 50, 3) := by decide +kernel
theorem dX7_ask_24 : decode cX7_ask 24 = .ok (.aload_n 0, 1) := by decide +kernel
theorem dX7_ask_25 : decode cX7_ask 25 = .ok (.getfield 198, 3) := by decide +kernel
theorem dX7_ask_28 : decode cX7_ask 28 = .ok (.aload_n 0, 1) := by decide +kernel
theorem dX7_ask_29 : decode cX7_ask 29 = .ok (.getfield 151, 3) := by decide +kernel
theorem dX7_ask_32 : decode cX7_ask 32 = .ok (.lastore, 1) := by decide +kernel
theorem dX7_ask_33 : decode cX7_ask 33 = .ok (.aload_n 0, 1) := by decide +kernel
theorem dX7_ask_34 : decode cX7_ask 34 = .ok (.getfield 53, 3) := by decide +kernel
theorem dX7_ask_37 : decode cX7_ask 37 = .ok (.aload_n 0, 1) := by decide +kernel
theorem dX7_ask_38 : decode cX7_ask 38 = .ok (.getfield 198, 3) := by decide +kernel
theorem dX7_ask_4 : decode cX7_ask 4 = .ok (.iconst 2, 1) := by decide +kernel
theorem dX7_ask_41 : decode cX7_ask 41 = .ok (.aload_n 0, 1) := by decide +kernel
theorem dX7_ask_42 : decode cX7_ask 42 = .ok (.getfield 134, 3) := by decide +kernel
theorem dX7_ask_45 : decode cX7_ask 45 = .ok (.iastore, 1) := by decide +kernel
theorem dX7_ask_46 : decode cX7_ask 46 = .ok (.aload_n 0, 1) := by decide +kernel
theorem dX7_ask_47 : decode cX7_ask 47 = .ok (.getfield 56, 3) := by decide +kernel
theorem dX7_ask_5 : decode cX7_ask 5 = .ok (.if_icmp .eq 7, 3) := by decide +kernel
theorem dX7_ask_50 : decode cX7_ask 50 = .ok (.aload_n 0, 1) := by decide +kernel
theorem dX7_ask_51 : decode cX7_ask 51 = .ok (.getfield 198, 3) := by decide +kernel
theorem dX7_ask_54 : decode cX7_ask 54 = .ok (.iload_n 1, 1) := by decide +kernel
theorem dX7_ask_55 : decode cX7_ask 55 = .ok (.iastore, 1) := by decide +kernel
theorem dX7_ask_56 : decode cX7_ask 56 = .ok (.aload_n 0, 1) := by decide +kernel
theorem dX7_ask_57 : decode cX7_ask 57 = .ok (.dup, 1) := by decide +kernel
theorem dX7_ask_58 : decode cX7_ask 58 = .ok (.getfield 198, 3) := by decide +kernel
theorem dX7_ask_61 : decode cX7_ask 61 = .ok (.iconst 1, 1) := by decide +kernel
theorem dX7_ask_62 : decode cX7_ask 62 = .ok (.iadd, 1) := by decide +kernel
theorem dX7_ask_63 : decode cX7_ask 63 = .ok (.putfield 198, 3) := by decide +kernel
theorem dX7_ask_66 : decode cX7_ask 66 = .ok (.aload_n 0, 1) := by decide +kernel
theorem dX7_ask_67 : decode cX7_ask 67 = .ok (.invokevirtual 179, 3) := by decide +kernel
theorem dX7_ask_70 : decode cX7_ask 70 = .ok (.return_, 1) := by decide +kernel
theorem dX7_ask_8 : decode cX7_ask 8 = .ok (.aload_n 0, 1) := by decide +kernel
theorem dX7_ask_9 : decode cX7_ask 9 = .ok (.invokevirtual 182, 3) := by decide +kernel
theorem dX7_bus_0 : decode cX7_bus 0 = .ok (.bipush 60, 2) := by decide +kernel
theorem dX7_bus_10 : decode cX7_bus 10 = .ok (.iconst 3, 1) := by decide +kernel
theorem dX7_bus_101 : decode cX7_bus 101 = .ok (.iload 7, 2) := by decide +kernel
theorem dX7_bus_103 : decode cX7_bus 103 = .ok (.iconst 3, 1) := by decide +kernel
theorem dX7_bus_104 : decode cX7_bus 104 = .ok (.if_icmp .ne 8, 3) := by decide +kernel
theorem dX7_bus_107 : decode cX7_bus 107 = .ok (.iload 4, 2) := by decide +kernel
theorem dX7_bus_109 : decode cX7_bus 109 = .ok (.goto 22, 3) := by decide +kernel
theorem dX7_bus_11 : decode cX7_bus 11 = .ok (.istore 4, 2) := by decide +kernel
theorem dX7_bus_112 : decode cX7_bus 112 = .ok (.iload 4, 2) := by decide +kernel
theorem dX7_bus_114 : decode cX7_bus 114 = .ok (.iconst 3, 1) := by decide +kernel
theorem dX7_bus_115 : decode cX7_bus 115 = .ok (.if_icmp .eq 10, 3) := by decide +kernel
theorem dX7_bus_118 : decode cX7_bus 118 = .ok (.iload 4, 2) := by decide +kernel
theorem dX7_bus_120 : decode cX7_bus 120 = .ok (.iload 7, 2) := by decide +kernel
theorem dX7_bus_122 : decode cX7_bus 122 = .ok (.if_icmp .ne 8, 3) := by decide +kernel
theorem dX7_bus_125 : decode cX7_bus 125 = .ok (.iload 7, 2) := by decide +kernel
theorem dX7_bus_127 : decode cX7_bus 127 = .ok (.goto 4, 3) := by decide +kernel
theorem dX7_bus_13 : decode cX7_bus 13 = .ok (.iconst 0, 1) := by decide +kernel
theorem dX7_bus_130 : decode cX7_bus 130 = .ok (.iconst 2, 1) := by decide +kernel
theorem dX7_bus_131 : decode cX7_bus 131 = .ok (.istore 4, 2) := by decide +kernel
theorem dX7_bus_133 : decode cX7_bus 133 = .ok (.iinc 5 1, 3) := by decide +kernel
theorem dX7_bus_136 : decode cX7_bus 136 = .ok (.goto (-120), 3) := by decide +kernel
theorem dX7_bus_139 : decode cX7_bus 139 = .ok (.iload 4, 2) := by decide +kernel
theorem dX7_bus_14 : decode cX7_bus 14 = .ok (.istore 5, 2) := by decide +kernel
theorem dX7_bus_141 : decode cX7_bus 141 = .ok (.ireturn, 1) := by decide +kernel
theorem dX7_bus_16 : decode cX7_bus 16 = .ok (.iload 5, 2) := by decide +kernel
theorem dX7_bus_18 : decode cX7_bus 18 = .ok (.aload_n 0, 1) := by decide +kernel
theorem dX7_bus_19 : decode cX7_bus 19 = .ok (.getfield 31, 3) := by decide +kernel
theorem dX7_bus_2 : decode cX7_bus 2 = .ok (.aload_n 0, 1) := by decide +kernel
theorem dX7_bus_22 : decode cX7_bus 22 = .ok (.iload_n 3, 1) := by decide +kernel
theorem dX7_bus_23 : decode cX7_bus 23 = .ok (.iaload, 1) := by decide +kernel
theorem dX7_bus_24 : decode cX7_bus 24 = .ok (.if_icmp .ge 115, 3) := by decide +kernel
theorem dX7_bus_27 : decode cX7_bus 27 = .ok (.aload_n 2, 1) := by decide +kernel
theorem dX7_bus_28 : decode cX7_bus 28 = .ok (.aload_n 0, 1) := by decide +kernel
theorem dX7_bus_29 : decode cX7_bus 29 = .ok (.iload_n 1, 1) := by decide +kernel
theorem dX7_bus_3 : decode cX7_bus 3 = .ok (.getfield 188, 3) := by decide +kernel
theorem dX7_bus_30 : decode cX7_bus 30 = .ok (.iconst 2, 1) := by decide +kernel
theorem dX7_bus_31 : decode cX7_bus 31 = .ok (.iload 5, 2) := by decide +kernel
theorem dX7_bus_33 : decode cX7_bus 33 = .ok (.imul, 1) := by decide +kernel
theorem dX7_bus_34 : decode cX7_bus 34 = .ok (.iconst 1, 1) := by decide +kernel
theorem dX7_bus_35 : decode cX7_bus 35 = .ok (.iadd, 1) := by decide +kernel
theorem dX7_bus_36 : decode cX7_bus 36 = .ok (.invokevirtual 277, 3) := by decide +kernel
theorem dX7_bus_39 : decode cX7_bus 39 = .ok (.iaload, 1) := by decide +kernel
theorem dX7_bus_40 : decode cX7_bus 40 = .ok (.invokestatic 281, 3) := by decide +kernel
theorem dX7_bus_43 : decode cX7_bus 43 = .ok (.istore 6, 2) := by decide +kernel
theorem dX7_bus_45 : decode cX7_bus 45 = .ok (.iload 6, 2) := by decide +kernel
theorem dX7_bus_47 : decode cX7_bus 47 = .ok (.iconst 2, 1) := by decide +kernel
theorem dX7_bus_48 : decode cX7_bus 48 = .ok (.if_icmp .ne 7, 3) := by decide +kernel
theorem dX7_bus_51 : decode cX7_bus 51 = .ok (.iconst 2, 1) := by decide +kernel
theorem dX7_bus_52 : decode cX7_bus 52 = .ok (.goto 47, 3) := by decide +kernel
theorem dX7_bus_55 : decode cX7_bus 55 = .ok (.iload 6, 2) := by decide +kernel
theorem dX7_bus_57 : decode cX7_bus 57 = .ok (.iconst 1, 1) := by decide +kernel
theorem dX7_bus_58 : decode cX7_bus 58 = .ok (.if_icmp .ne 7, 3) := by decide +kernel
theorem dX7_bus_6 : decode cX7_bus 6 = .ok (.imul, 1) := by decide +kernel
theorem dX7_bus_61 : decode cX7_bus 61 = .ok (.iconst 1, 1) := by decide +kernel
theorem dX7_bus_62 : decode cX7_bus 62 = .ok (.goto 4, 3) := by decide +kernel
theorem dX7_bus_65 : decode cX7_bus 65 = .ok (.iconst 0, 1) := by decide +kernel
theorem dX7_bus_66 : decode cX7_bus 66 = .ok (.aload_n 0, 1) := by decide +kernel
theorem dX7_bus_67 : decode cX7_bus 67 = .ok (.getfield 46, 3) := by decide +kernel
theorem dX7_bus_7 : decode cX7_bus 7 = .ok (.iload_n 1, 1) := by decide +kernel
theorem dX7_bus_70 : decode cX7_bus 70 = .ok (.bipush 6, 2) := by decide +kernel
theorem dX7_bus_72 : decode cX7_bus 72 = .ok (.iload_n 3, 1) := by decide +kernel
theorem dX7_bus_73 : decode cX7_bus 73 = .ok (.imul, 1) := by decide +kernel
theorem dX7_bus_74 : decode cX7_bus 74 = .ok (.iload 5, 2) := by decide +kernel
theorem dX7_bus_76 : decode cX7_bus 76 = .ok (.iadd, 1) := by decide +kernel
theorem dX7_bus_77 : decode cX7_bus 77 = .ok (.baload, 1) := by decide +kernel
theorem dX7_bus_78 : decode cX7_bus 78 = .ok (.if_icmp .ne 20, 3) := by decide +kernel
theorem dX7_bus_8 : decode cX7_bus 8 = .ok (.iadd, 1) := by decide +kernel
theorem dX7_bus_81 : decode cX7_bus 81 = .ok (.aload_n 2, 1) := by decide +kernel
theorem dX7_bus_82 : decode cX7_bus 82 = .ok (.aload_n 0, 1) := by decide +kernel
theorem dX7_bus_83 : decode cX7_bus 83 = .ok (.iload_n 1, 1) := by decide +kernel
theorem dX7_bus_84 : decode cX7_bus 84 = .ok (.iconst 2, 1) := by decide +kernel
theorem dX7_bus_85 : decode cX7_bus 85 = .ok (.iload 5, 2) := by decide +kernel
theorem dX7_bus_87 : decode cX7_bus 87 = .ok (.imul, 1) := by decide +kernel
theorem dX7_bus_88 : decode cX7_bus 88 = .ok (.invokevirtual 277, 3) := by decide +kernel
theorem dX7_bus_9 : decode cX7_bus 9 = .ok (.istore_n 3, 1) := by decide +kernel
theorem dX7_bus_91 : decode cX7_bus 91 = .ok (.iaload, 1) := by decide +kernel
theorem dX7_bus_92 : decode cX7_bus 92 = .ok (.invokestatic 281, 3) := by decide +kernel
theorem dX7_bus_95 : decode cX7_bus 95 = .ok (.goto 4, 3) := by decide +kernel
theorem dX7_bus_98 : decode cX7_bus 98 = .ok (.iconst 3, 1) := by decide +kernel
theorem dX7_bus_99 : decode cX7_bus 99 = .ok (.istore 7, 2) := by decide +kernel
theorem dX7_change_0 : decode cX7_change 0 = .ok (.aload_n 0, 1) := by decide +kernel
theorem dX7_change_1 : decode cX7_change 1 = .ok (.getfield 89, 3) := by decide +kernel
theorem dX7_change_11 : decode cX7_change 11 = .ok (.iload_n 1, 1) := by decide +kernel
theorem dX7_change_12 : decode cX7_change 12 = .ok (.iconst 1, 1) := by decide +kernel
theorem dX7_change_13 : decode cX7_change 13 = .ok (.bastore, 1) := by decide +kernel
theorem dX7_change_14 : decode cX7_change 14 = .ok (.aload_n 0, 1) := by decide +kernel
theorem dX7_change_15 : decode cX7_change 15 = .ok (.getfield 101, 3) := by decide +kernel
theorem dX7_change_18 : decode cX7_change 18 = .ok (.iload_n 1, 1) := by decide +kernel
theorem dX7_change_19 : decode cX7_change 19 = .ok (.iaload, 1) := by decide +kernel
theorem dX7_change_20 : decode cX7_change 20 = .ok (.bipush 20, 2) := by decide +kernel
theorem dX7_change_22 : decode cX7_change 22 = .ok (.if_icmp .ge 27, 3) := by decide +kernel
theorem dX7_change_25 : decode cX7_change 25 = .ok (.aload_n 0, 1) := by decide +kernel
theorem dX7_change_26 : decode cX7_change 26 = .ok (.getfield 98, 3) := by decide +kernel
theorem dX7_change_29 : decode cX7_change 29 = .ok (.bipush 20, 2) := by decide +kernel
theorem dX7_change_31 : decode cX7_change 31 = .ok (.iload_n 1, 1) := by decide +kernel
theorem dX7_change_32 : decode cX7_change 32 = .ok (.imul, 1) := by decide +kernel
theorem dX7_change_33 : decode cX7_change 33 = .ok (.aload_n 0, 1) := by decide +kernel
theorem dX7_change_34 : decode cX7_change 34 = .ok (.getfield 101, 3) := by decide +kernel
theorem dX7_change_37 : decode cX7_change 37 = .ok (.iload_n 1, 1) := by decide +kernel
theorem dX7_change_38 : decode cX7_change 38 = .ok (.iaload, 1) := by decide +kernel
theorem dX7_change_39 : decode cX7_change 39 = .ok (.iadd, 1) := by decide +kernel
theorem dX7_change_4 : decode cX7_change 4 = .ok (.iload_n 1, 1) := by decide +kernel
theorem dX7_change_40 : decode cX7_change 40 = .ok (.iconst 4, 1) := by decide +kernel
theorem dX7_change_41 : decode cX7_change 41 = .ok (.aload_n 0, 1) := by decide +kernel
theorem dX7_change_42 : decode cX7_change 42 = .ok (.getfield 316, 3) := by decide +kernel
theorem dX7_change_45 : decode cX7_change 45 = .ok (.imul, 1) := by decide +kernel
theorem dX7_change_46 : decode cX7_change 46 = .ok (.iload_n 2, 1) := by decide +kernel
theorem dX7_change_47 : decode cX7_change 47 = .ok (.iadd, 1) := by decide +kernel
theorem dX7_change_48 : decode cX7_change 48 = .ok (.iastore, 1) := by decide +kernel
theorem dX7_change_49 : decode cX7_change 49 = .ok (.aload_n 0, 1) := by decide +kernel
theorem dX7_change_5 : decode cX7_change 5 = .ok (.iload_n 2, 1) := by decide +kernel
theorem dX7_change_50 : decode cX7_change 50 = .ok (.getfield 101, 3) := by decide +kernel
theorem dX7_change_53 : decode cX7_change 53 = .ok (.iload_n 1, 1) := by decide +kernel
theorem dX7_change_54 : decode cX7_change 54 = .ok (.dup2, 1) := by decide +kernel
theorem dX7_change_55 : decode cX7_change 55 = .ok (.iaload, 1) := by decide +kernel
theorem dX7_change_56 : decode cX7_change 56 = .ok (.iconst 1, 1) := by decide +kernel
theorem dX7_change_57 : decode cX7_change 57 = .ok (.iadd, 1) := by decide +kernel
theorem dX7_change_58 : decode cX7_change 58 = .ok (.iastore, 1) := by decide +kernel
theorem dX7_change_59 : decode cX7_change 59 = .ok (.return_, 1) := by decide +kernel
theorem dX7_change_6 : decode cX7_change 6 = .ok (.iastore, 1) := by decide +kernel
theorem dX7_change_7 : decode cX7_change 7 = .ok (.aload_n 0, 1) := by decide +kernel
theorem dX7_change_8 : decode cX7_change 8 = .ok (.getfield 104, 3) := by decide +kernel
theorem dX7_drives_0 : decode cX7_drives 0 = .ok (.bipush 60, 2) := by decide +kernel
theorem dX7_drives_10 : decode cX7_drives 10 = .ok (.iconst 0, 1) := by decide +kernel
theorem dX7_drives_102 : decode cX7_drives 102 = .ok (.aload_n 0, 1) := by decide +kernel
theorem dX7_drives_103 : decode cX7_drives 103 = .ok (.getfield 77, 3) := by decide +kernel
theorem dX7_drives_106 : decode cX7_drives 106 = .ok (.iload_n 1, 1) := by decide +kernel
theorem dX7_drives_107 : decode cX7_drives 107 = .ok (.iconst 0, 1) := by decide +kernel
theorem dX7_drives_108 : decode cX7_drives 108 = .ok (.iastore, 1) := by decide +kernel
theorem dX7_drives_109 : decode cX7_drives 109 = .ok (.iload_n 3, 1) := by decide +kernel
theorem dX7_drives_11 : decode cX7_drives 11 = .ok (.istore_n 3, 1) := by decide +kernel
theorem dX7_drives_110 : decode cX7_drives 110 = .ok (.iconst 1, 1) := by decide +kernel
theorem dX7_drives_111 : decode cX7_drives 111 = .ok (.if_icmp .ne 7, 3) := by decide +kernel
theorem dX7_drives_114 : decode cX7_drives 114 = .ok (.iconst 1, 1) := by decide +kernel
theorem dX7_drives_115 : decode cX7_drives 115 = .ok (.goto 4, 3) := by decide +kernel
theorem dX7_drives_118 : decode cX7_drives 118 = .ok (.iconst 0, 1) := by decide +kernel
theorem dX7_drives_119 : decode cX7_drives 119 = .ok (.ireturn, 1) := by decide +kernel
theorem dX7_drives_12 : decode cX7_drives 12 = .ok (.iconst 0, 1) := by decide +kernel
theorem dX7_drives_13 : decode cX7_drives 13 = .ok (.istore 4, 2) := by decide +kernel
theorem dX7_drives_15 : decode cX7_drives 15 = .ok (.iload 4, 2) := by decide +kernel
theorem dX7_drives_17 : decode cX7_drives 17 = .ok (.aload_n 0, 1) := by decide +kernel
theorem dX7_drives_18 : decode cX7_drives 18 = .ok (.getfield 31, 3) := by decide +kernel
theorem dX7_drives_2 : decode cX7_drives 2 = .ok (.aload_n 0, 1) := by decide +kernel
theorem dX7_drives_21 : decode cX7_drives 21 = .ok (.iload_n 2, 1) := by decide +kernel
theorem dX7_drives_22 : decode cX7_drives 22 = .ok (.iaload, 1) := by decide +kernel
theorem dX7_drives_23 : decode cX7_drives 23 = .ok (.if_icmp .ge 75, 3) := by decide +kernel
theorem dX7_drives_26 : decode cX7_drives 26 = .ok (.aload_n 0, 1) := by decide +kernel
theorem dX7_drives_27 : decode cX7_drives 27 = .ok (.getfield 77, 3) := by decide +kernel
theorem dX7_drives_3 : decode cX7_drives 3 = .ok (.getfield 188, 3) := by decide +kernel
theorem dX7_drives_30 : decode cX7_drives 30 = .ok (.aload_n 0, 1) := by decide +kernel
theorem dX7_drives_31 : decode cX7_drives 31 = .ok (.iload_n 1, 1) := by decide +kernel
theorem dX7_drives_32 : decode cX7_drives 32 = .ok (.iconst 2, 1) := by decide +kernel
theorem dX7_drives_33 : decode cX7_drives 33 = .ok (.iload 4, 2) := by decide +kernel
theorem dX7_drives_35 : decode cX7_drives 35 = .ok (.imul, 1) := by decide +kernel
theorem dX7_drives_36 : decode cX7_drives 36 = .ok (.iconst 1, 1) := by decide +kernel
theorem dX7_drives_37 : decode cX7_drives 37 = .ok (.iadd, 1) := by decide +kernel
theorem dX7_drives_38 : decode cX7_drives 38 = .ok (.invokevirtual 277, 3) := by decide +kernel
theorem dX7_drives_41 : decode cX7_drives 41 = .ok (.iaload, 1) := by decide +kernel
theorem dX7_drives_42 : decode cX7_drives 42 = .ok (.iconst 1, 1) := by decide +kernel
theorem dX7_drives_43 : decode cX7_drives 43 = .ok (.if_icmp .ne 7, 3) := by decide +kernel
theorem dX7_drives_46 : decode cX7_drives 46 = .ok (.iconst 1, 1) := by decide +kernel
theorem dX7_drives_47 : decode cX7_drives 47 = .ok (.goto 4, 3) := by decide +kernel
theorem dX7_drives_50 : decode cX7_drives 50 = .ok (.iconst 0, 1) := by decide +kernel
theorem dX7_drives_51 : decode cX7_drives 51 = .ok (.aload_n 0, 1) := by decide +kernel
theorem dX7_drives_52 : decode cX7_drives 52 = .ok (.getfield 46, 3) := by decide +kernel
theorem dX7_drives_55 : decode cX7_drives 55 = .ok (.bipush 6, 2) := by decide +kernel
theorem dX7_drives_57 : decode cX7_drives 57 = .ok (.iload_n 2, 1) := by decide +kernel
theorem dX7_drives_58 : decode cX7_drives 58 = .ok (.imul, 1) := by decide +kernel
theorem dX7_drives_59 : decode cX7_drives 59 = .ok (.iload 4, 2) := by decide +kernel
theorem dX7_drives_6 : decode cX7_drives 6 = .ok (.imul, 1) := by decide +kernel
theorem dX7_drives_61 : decode cX7_drives 61 = .ok (.iadd, 1) := by decide +kernel
theorem dX7_drives_62 : decode cX7_drives 62 = .ok (.baload, 1) := by decide +kernel
theorem dX7_drives_63 : decode cX7_drives 63 = .ok (.if_icmp .eq 6, 3) := by decide +kernel
theorem dX7_drives_66 : decode cX7_drives 66 = .ok (.goto 26, 3) := by decide +kernel
theorem dX7_drives_69 : decode cX7_drives 69 = .ok (.iinc 3 1, 3) := by decide +kernel
theorem dX7_drives_7 : decode cX7_drives 7 = .ok (.iload_n 1, 1) := by decide +kernel
theorem dX7_drives_72 : decode cX7_drives 72 = .ok (.aload_n 0, 1) := by decide +kernel
theorem dX7_drives_73 : decode cX7_drives 73 = .ok (.getfield 77, 3) := by decide +kernel
theorem dX7_drives_76 : decode cX7_drives 76 = .ok (.iload_n 1, 1) := by decide +kernel
theorem dX7_drives_77 : decode cX7_drives 77 = .ok (.aload_n 0, 1) := by decide +kernel
theorem dX7_drives_78 : decode cX7_drives 78 = .ok (.getfield 77, 3) := by decide +kernel
theorem dX7_drives_8 : decode cX7_drives 8 = .ok (.iadd, 1) := by decide +kernel
theorem dX7_drives_81 : decode cX7_drives 81 = .ok (.aload_n 0, 1) := by decide +kernel
theorem dX7_drives_82 : decode cX7_drives 82 = .ok (.iload_n 1, 1) := by decide +kernel
theorem dX7_drives_83 : decode cX7_drives 83 = .ok (.iconst 2, 1) := by decide +kernel
theorem dX7_drives_84 : decode cX7_drives 84 = .ok (.iload 4, 2) := by decide +kernel
theorem dX7_drives_86 : decode cX7_drives 86 = .ok (.imul, 1) := by decide +kernel
theorem dX7_drives_87 : decode cX7_drives 87 = .ok (.invokevirtual 277, 3) := by decide +kernel
theorem dX7_drives_9 : decode cX7_drives 9 = .ok (.istore_n 2, 1) := by decide +kernel
theorem dX7_drives_90 : decode cX7_drives 90 = .ok (.iaload, 1) := by decide +kernel
theorem dX7_drives_91 : decode cX7_drives 91 = .ok (.iastore, 1) := by decide +kernel
theorem dX7_drives_92 : decode cX7_drives 92 = .ok (.iinc 4 1, 3) := by decide +kernel
theorem dX7_drives_95 : decode cX7_drives 95 = .ok (.goto (-80), 3) := by decide +kernel
theorem dX7_drives_98 : decode cX7_drives 98 = .ok (.iload_n 3, 1) := by decide +kernel
theorem dX7_drives_99 : decode cX7_drives 99 = .ok (.ifCond .ne 10, 3) := by decide +kernel
theorem dX7_end_0 : decode cX7_end 0 = .ok (.iload_n 1, 1) := by decide +kernel
theorem dX7_end_1 : decode cX7_end 1 = .ok (.ifCond .lt 11, 3) := by decide +kernel
theorem dX7_end_12 : decode cX7_end 12 = .ok (.iconst (-1), 1) := by decide +kernel
theorem dX7_end_13 : decode cX7_end 13 = .ok (.ireturn, 1) := by decide +kernel
theorem dX7_end_14 : decode cX7_end 14 = .ok (.aload_n 0, 1) := by decide +kernel
theorem dX7_end_15 : decode cX7_end 15 = .ok (.iload_n 1, 1) := by decide +kernel
theorem dX7_end_16 : decode cX7_end 16 = .ok (.putfield 249, 3) := by decide +kernel
theorem dX7_end_19 : decode cX7_end 19 = .ok (.iload_n 1, 1) := by decide +kernel
theorem dX7_end_20 : decode cX7_end 20 = .ok (.ireturn, 1) := by decide +kernel
theorem dX7_end_4 : decode cX7_end 4 = .ok (.iload_n 1, 1) := by decide +kernel
theorem dX7_end_5 : decode cX7_end 5 = .ok (.aload_n 0, 1) := by decide +kernel
theorem dX7_end_6 : decode cX7_end 6 = .ok (.getfield 249, 3) := by decide +kernel
theorem dX7_end_9 : decode cX7_end 9 = .ok (.if_icmp .le 5, 3) := by decide +kernel
theorem dX7_fails_0 : decode cX7_fails 0 = .ok (.aload_n 0, 1) := by decide +kernel
theorem dX7_fails_1 : decode cX7_fails 1 = .ok (.getfield 110, 3) := by decide +kernel
theorem dX7_fails_10 : decode cX7_fails 10 = .ok (.putfield 110, 3) := by decide +kernel
theorem dX7_fails_13 : decode cX7_fails 13 = .ok (.aload_n 0, 1) := by decide +kernel
theorem dX7_fails_14 : decode cX7_fails 14 = .ok (.iload_n 2, 1) := by decide +kernel
theorem dX7_fails_15 : decode cX7_fails 15 = .ok (.putfield 16, 3) := by decide +kernel
theorem dX7_fails_18 : decode cX7_fails 18 = .ok (.return_, 1) := by decide +kernel
theorem dX7_fails_4 : decode cX7_fails 4 = .ok (.ifCond .le 4, 3) := by decide +kernel
theorem dX7_fails_7 : decode cX7_fails 7 = .ok (.return_, 1) := by decide +kernel
theorem dX7_fails_8 : decode cX7_fails 8 = .ok (.aload_n 0, 1) := by decide +kernel
theorem dX7_fails_9 : decode cX7_fails 9 = .ok (.iload_n 1, 1) := by decide +kernel
theorem dX7_fault_0 : decode cX7_fault 0 = .ok (.iload_n 1, 1) := by decide +kernel
theorem dX7_fault_1 : decode cX7_fault 1 = .ok (.ifCond .ne 10, 3) := by decide +kernel
theorem dX7_fault_11 : decode cX7_fault 11 = .ok (.iload_n 1, 1) := by decide +kernel
theorem dX7_fault_12 : decode cX7_fault 12 = .ok (.iconst 1, 1) := by decide +kernel
theorem dX7_fault_13 : decode cX7_fault 13 = .ok (.if_icmp .ne 10, 3) := by decide +kernel
theorem dX7_fault_16 : decode cX7_fault 16 = .ok (.aload_n 0, 1) := by decide +kernel
theorem dX7_fault_17 : decode cX7_fault 17 = .ok (.getfield 16, 3) := by decide +kernel
theorem dX7_fault_20 : decode cX7_fault 20 = .ok (.goto 4, 3) := by decide +kernel
theorem dX7_fault_23 : decode cX7_fault 23 = .ok (.iconst (-1), 1) := by decide +kernel
theorem dX7_fault_24 : decode cX7_fault 24 = .ok (.ireturn, 1) := by decide +kernel
theorem dX7_fault_4 : decode cX7_fault 4 = .ok (.aload_n 0, 1) := by decide +kernel
theorem dX7_fault_5 : decode cX7_fault 5 = .ok (.getfield 110, 3) := by decide +kernel
theorem dX7_fault_8 : decode cX7_fault 8 = .ok (.goto 16, 3) := by decide +kernel
theorem dX7_feed_0 : decode cX7_feed 0 = .ok (.aload_n 0, 1) := by decide +kernel
theorem dX7_feed_1 : decode cX7_feed 1 = .ok (.getfield 249, 3) := by decide +kernel
theorem dX7_feed_10 : decode cX7_feed 10 = .ok (.if_icmp .le 5, 3) := by decide +kernel
theorem dX7_feed_102 : decode cX7_feed 102 = .ok (.goto (-84), 3) := by decide +kernel
theorem dX7_feed_105 : decode cX7_feed 105 = .ok (.aload_n 0, 1) := by decide +kernel
theorem dX7_feed_106 : decode cX7_feed 106 = .ok (.dup, 1) := by decide +kernel
theorem dX7_feed_107 : decode cX7_feed 107 = .ok (.getfield 249, 3) := by decide +kernel
theorem dX7_feed_110 : decode cX7_feed 110 = .ok (.bipush 20, 2) := by decide +kernel
theorem dX7_feed_112 : decode cX7_feed 112 = .ok (.iadd, 1) := by decide +kernel
theorem dX7_feed_113 : decode cX7_feed 113 = .ok (.putfield 249, 3) := by decide +kernel
theorem dX7_feed_116 : decode cX7_feed 116 = .ok (.aload_n 0, 1) := by decide +kernel
theorem dX7_feed_117 : decode cX7_feed 117 = .ok (.getfield 249, 3) := by decide +kernel
theorem dX7_feed_120 : decode cX7_feed 120 = .ok (.ireturn, 1) := by decide +kernel
theorem dX7_feed_13 : decode cX7_feed 13 = .ok (.iconst (-1), 1) := by decide +kernel
theorem dX7_feed_14 : decode cX7_feed 14 = .ok (.ireturn, 1) := by decide +kernel
theorem dX7_feed_15 : decode cX7_feed 15 = .ok (.iconst 0, 1) := by decide +kernel
theorem dX7_feed_16 : decode cX7_feed 16 = .ok (.istore 6, 2) := by decide +kernel
theorem dX7_feed_18 : decode cX7_feed 18 = .ok (.iload 6, 2) := by decide +kernel
theorem dX7_feed_20 : decode cX7_feed 20 = .ok (.bipush 20, 2) := by decide +kernel
theorem dX7_feed_22 : decode cX7_feed 22 = .ok (.if_icmp .ge 83, 3) := by decide +kernel
theorem dX7_feed_25 : decode cX7_feed 25 = .ok (.iload 6, 2) := by decide +kernel
theorem dX7_feed_27 : decode cX7_feed 27 = .ok (.iconst 4, 1) := by decide +kernel
theorem dX7_feed_28 : decode cX7_feed 28 = .ok (.if_icmp .ge 7, 3) := by decide +kernel
theorem dX7_feed_31 : decode cX7_feed 31 = .ok (.iload_n 1, 1) := by decide +kernel
theorem dX7_feed_32 : decode cX7_feed 32 = .ok (.goto 39, 3) := by decide +kernel
theorem dX7_feed_35 : decode cX7_feed 35 = .ok (.iload 6, 2) := by decide +kernel
theorem dX7_feed_37 : decode cX7_feed 37 = .ok (.bipush 8, 2) := by decide +kernel
theorem dX7_feed_39 : decode cX7_feed 39 = .ok (.if_icmp .ge 7, 3) := by decide +kernel
theorem dX7_feed_4 : decode cX7_feed 4 = .ok (.bipush 20, 2) := by decide +kernel
theorem dX7_feed_42 : decode cX7_feed 42 = .ok (.iload_n 2, 1) := by decide +kernel
theorem dX7_feed_43 : decode cX7_feed 43 = .ok (.goto 28, 3) := by decide +kernel
theorem dX7_feed_46 : decode cX7_feed 46 = .ok (.iload 6, 2) := by decide +kernel
theorem dX7_feed_48 : decode cX7_feed 48 = .ok (.bipush 12, 2) := by decide +kernel
theorem dX7_feed_50 : decode cX7_feed 50 = .ok (.if_icmp .ge 7, 3) := by decide +kernel
theorem dX7_feed_53 : decode cX7_feed 53 = .ok (.iload_n 3, 1) := by decide +kernel
theorem dX7_feed_54 : decode cX7_feed 54 = .ok (.goto 17, 3) := by decide +kernel
theorem dX7_feed_57 : decode cX7_feed 57 = .ok (.iload 6, 2) := by decide +kernel
theorem dX7_feed_59 : decode cX7_feed 59 = .ok (.bipush 16, 2) := by decide +kernel
theorem dX7_feed_6 : decode cX7_feed 6 = .ok (.iadd, 1) := by decide +kernel
theorem dX7_feed_61 : decode cX7_feed 61 = .ok (.if_icmp .ge 8, 3) := by decide +kernel
theorem dX7_feed_64 : decode cX7_feed 64 = .ok (.iload 4, 2) := by decide +kernel
theorem dX7_feed_66 : decode cX7_feed 66 = .ok (.goto 5, 3) := by decide +kernel
theorem dX7_feed_69 : decode cX7_feed 69 = .ok (.iload 5, 2) := by decide +kernel
theorem dX7_feed_7 : decode cX7_feed 7 = .ok (.sipush 2000, 3) := by decide +kernel
theorem dX7_feed_71 : decode cX7_feed 71 = .ok (.istore 7, 2) := by decide +kernel
theorem dX7_feed_73 : decode cX7_feed 73 = .ok (.aload_n 0, 1) := by decide +kernel
theorem dX7_feed_74 : decode cX7_feed 74 = .ok (.getfield 7, 3) := by decide +kernel
theorem dX7_feed_77 : decode cX7_feed 77 = .ok (.aload_n 0, 1) := by decide +kernel
theorem dX7_feed_78 : decode cX7_feed 78 = .ok (.getfield 249, 3) := by decide +kernel
theorem dX7_feed_81 : decode cX7_feed 81 = .ok (.iload 6, 2) := by decide +kernel
theorem dX7_feed_83 : decode cX7_feed 83 = .ok (.iadd, 1) := by decide +kernel
theorem dX7_feed_84 : decode cX7_feed 84 = .ok (.iload 7, 2) := by decide +kernel
theorem dX7_feed_86 : decode cX7_feed 86 = .ok (.bipush 24, 2) := by decide +kernel
theorem dX7_feed_88 : decode cX7_feed 88 = .ok (.bipush 8, 2) := by decide +kernel
theorem dX7_feed_90 : decode cX7_feed 90 = .ok (.iload 6, 2) := by decide +kernel
theorem dX7_feed_92 : decode cX7_feed 92 = .ok (.iconst 3, 1) := by decide +kernel
theorem dX7_feed_93 : decode cX7_feed 93 = .ok (.iand, 1) := by decide +kernel
theorem dX7_feed_94 : decode cX7_feed 94 = .ok (.imul, 1) := by decide +kernel
theorem dX7_feed_95 : decode cX7_feed 95 = .ok (.isub, 1) := by decide +kernel
theorem dX7_feed_96 : decode cX7_feed 96 = .ok (.ishr, 1) := by decide +kernel
theorem dX7_feed_97 : decode cX7_feed 97 = .ok (.i2b, 1) := by decide +kernel
theorem dX7_feed_98 : decode cX7_feed 98 = .ok (.bastore, 1) := by decide +kernel
theorem dX7_feed_99 : decode cX7_feed 99 = .ok (.iinc 6 1, 3) := by decide +kernel
theorem dX7_find_0 : decode cX7_find 0 = .ok (.aload_n 0, 1) := by decide +kernel
theorem dX7_find_1 : decode cX7_find 1 = .ok (.iconst 0, 1) := by decide +kernel
theorem dX7_find_12 : decode cX7_find 12 = .ok (.if_icmp .ge 59, 3) := by decide +kernel
theorem dX7_find_15 : decode cX7_find 15 = .ok (.aload_n 0, 1) := by decide +kernel
theorem dX7_find_16 : decode cX7_find 16 = .ok (.iload_n 1, 1) := by decide +kernel
theorem dX7_find_17 : decode cX7_find 17 = .ok (.invokevirtual 271, 3) := by decide +kernel
theorem dX7_find_2 : decode cX7_find 2 = .ok (.putfield 304, 3) := by decide +kernel
theorem dX7_find_20 : decode cX7_find 20 = .ok (.ifCond .eq 12, 3) := by decide +kernel
theorem dX7_find_23 : decode cX7_find 23 = .ok (.aload_n 0, 1) := by decide +kernel
theorem dX7_find_24 : decode cX7_find 24 = .ok (.iload_n 1, 1) := by decide +kernel
theorem dX7_find_25 : decode cX7_find 25 = .ok (.invokevirtual 271, 3) := by decide +kernel
theorem dX7_find_28 : decode cX7_find 28 = .ok (.iconst 3, 1) := by decide +kernel
theorem dX7_find_29 : decode cX7_find 29 = .ok (.if_icmp .ne 36, 3) := by decide +kernel
theorem dX7_find_32 : decode cX7_find 32 = .ok (.aload_n 0, 1) := by decide +kernel
theorem dX7_find_33 : decode cX7_find 33 = .ok (.getfield 71, 3) := by decide +kernel
theorem dX7_find_36 : decode cX7_find 36 = .ok (.iload_n 1, 1) := by decide +kernel
theorem dX7_find_37 : decode cX7_find 37 = .ok (.iaload, 1) := by decide +kernel
theorem dX7_find_38 : decode cX7_find 38 = .ok (.iconst 2, 1) := by decide +kernel
theorem dX7_find_39 : decode cX7_find 39 = .ok (.if_icmp .ge 6, 3) := by decide +kernel
theorem dX7_find_42 : decode cX7_find 42 = .ok (.goto 23, 3) := by decide +kernel
theorem dX7_find_45 : decode cX7_find 45 = .ok (.aload_n 0, 1) := by decide +kernel
theorem dX7_find_46 : decode cX7_find 46 = .ok (.getfield 86, 3) := by decide +kernel
theorem dX7_find_49 : decode cX7_find 49 = .ok (.aload_n 0, 1) := by decide +kernel
theorem dX7_find_5 : decode cX7_find 5 = .ok (.iconst 0, 1) := by decide +kernel
theorem dX7_find_50 : decode cX7_find 50 = .ok (.getfield 304, 3) := by decide +kernel
theorem dX7_find_53 : decode cX7_find 53 = .ok (.iload_n 1, 1) := by decide +kernel
theorem dX7_find_54 : decode cX7_find 54 = .ok (.iastore, 1) := by decide +kernel
theorem dX7_find_55 : decode cX7_find 55 = .ok (.aload_n 0, 1) := by decide +kernel
theorem dX7_find_56 : decode cX7_find 56 = .ok (.dup, 1) := by decide +kernel
theorem dX7_find_57 : decode cX7_find 57 = .ok (.getfield 304, 3) := by decide +kernel
theorem dX7_find_6 : decode cX7_find 6 = .ok (.istore_n 1, 1) := by decide +kernel
theorem dX7_find_60 : decode cX7_find 60 = .ok (.iconst 1, 1) := by decide +kernel
theorem dX7_find_61 : decode cX7_find 61 = .ok (.iadd, 1) := by decide +kernel
theorem dX7_find_62 : decode cX7_find 62 = .ok (.putfield 304, 3) := by decide +kernel
theorem dX7_find_65 : decode cX7_find 65 = .ok (.iinc 1 1, 3) := by decide +kernel
theorem dX7_find_68 : decode cX7_find 68 = .ok (.goto (-61), 3) := by decide +kernel
theorem dX7_find_7 : decode cX7_find 7 = .ok (.iload_n 1, 1) := by decide +kernel
theorem dX7_find_71 : decode cX7_find 71 = .ok (.return_, 1) := by decide +kernel
theorem dX7_find_8 : decode cX7_find 8 = .ok (.aload_n 0, 1) := by decide +kernel
theorem dX7_find_9 : decode cX7_find 9 = .ok (.getfield 261, 3) := by decide +kernel
theorem dX7_flicker_0 : decode cX7_flicker 0 = .ok (.aload_n 0, 1) := by decide +kernel
theorem dX7_flicker_1 : decode cX7_flicker 1 = .ok (.iload_n 1, 1) := by decide +kernel
theorem dX7_flicker_10 : decode cX7_flicker 10 = .ok (.invokevirtual 271, 3) := by decide +kernel
theorem dX7_flicker_101 : decode cX7_flicker 101 = .ok (.aload_n 0, 1) := by decide +kernel
theorem dX7_flicker_102 : decode cX7_flicker 102 = .ok (.aload_n 0, 1) := by decide +kernel
theorem dX7_flicker_103 : decode cX7_flicker 103 = .ok (.getfield 83, 3) := by decide +kernel
theorem dX7_flicker_106 : decode cX7_flicker 106 = .ok (.invokevirtual 291, 3) := by decide +kernel
theorem dX7_flicker_109 : decode cX7_flicker 109 = .ok (.iload_n 2, 1) := by decide +kernel
theorem dX7_flicker_110 : decode cX7_flicker 110 = .ok (.istore_n 3, 1) := by decide +kernel
theorem dX7_flicker_111 : decode cX7_flicker 111 = .ok (.iconst 0, 1) := by decide +kernel
theorem dX7_flicker_112 : decode cX7_flicker 112 = .ok (.istore 4, 2) := by decide +kernel
theorem dX7_flicker_114 : decode cX7_flicker 114 = .ok (.iload 4, 2) := by decide +kernel
theorem dX7_flicker_116 : decode cX7_flicker 116 = .ok (.aload_n 0, 1) := by decide +kernel
theorem dX7_flicker_117 : decode cX7_flicker 117 = .ok (.getfield 261, 3) := by decide +kernel
theorem dX7_flicker_120 : decode cX7_flicker 120 = .ok (.if_icmp .ge 61, 3) := by decide +kernel
theorem dX7_flicker_123 : decode cX7_flicker 123 = .ok (.aload_n 0, 1) := by decide +kernel
theorem dX7_flicker_124 : decode cX7_flicker 124 = .ok (.getfield 74, 3) := by decide +kernel
theorem dX7_flicker_127 : decode cX7_flicker 127 = .ok (.iload 4, 2) := by decide +kernel
theorem dX7_flicker_129 : decode cX7_flicker 129 = .ok (.iaload, 1) := by decide +kernel
theorem dX7_flicker_13 : decode cX7_flicker 13 = .ok (.ifCond .ne 17, 3) := by decide +kernel
theorem dX7_flicker_130 : decode cX7_flicker 130 = .ok (.iconst 1, 1) := by decide +kernel
theorem dX7_flicker_131 : decode cX7_flicker 131 = .ok (.if_icmp .gt 44, 3) := by decide +kernel
theorem dX7_flicker_134 : decode cX7_flicker 134 = .ok (.aload_n 0, 1) := by decide +kernel
theorem dX7_flicker_135 : decode cX7_flicker 135 = .ok (.getfield 74, 3) := by decide +kernel
theorem dX7_flicker_138 : decode cX7_flicker 138 = .ok (.iload 4, 2) := by decide +kernel
theorem dX7_flicker_140 : decode cX7_flicker 140 = .ok (.iaload, 1) := by decide +kernel
theorem dX7_flicker_141 : decode cX7_flicker 141 = .ok (.aload_n 0, 1) := by decide +kernel
theorem dX7_flicker_142 : decode cX7_flicker 142 = .ok (.getfield 80, 3) := by decide +kernel
theorem dX7_flicker_145 : decode cX7_flicker 145 = .ok (.iload 4, 2) := by decide +kernel
theorem dX7_flicker_147 : decode cX7_flicker 147 = .ok (.iaload, 1) := by decide +kernel
theorem dX7_flicker_148 : decode cX7_flicker 148 = .ok (.if_icmp .ne 27, 3) := by decide +kernel
theorem dX7_flicker_151 : decode cX7_flicker 151 = .ok (.aload_n 0, 1) := by decide +kernel
theorem dX7_flicker_152 : decode cX7_flicker 152 = .ok (.getfield 83, 3) := by decide +kernel
theorem dX7_flicker_155 : decode cX7_flicker 155 = .ok (.iload 4, 2) := by decide +kernel
theorem dX7_flicker_157 : decode cX7_flicker 157 = .ok (.iaload, 1) := by decide +kernel
theorem dX7_flicker_158 : decode cX7_flicker 158 = .ok (.iconst 2, 1) := by decide +kernel
theorem dX7_flicker_159 : decode cX7_flicker 159 = .ok (.if_icmp .eq 6, 3) := by decide +kernel
theorem dX7_flicker_16 : decode cX7_flicker 16 = .ok (.aload_n 0, 1) := by decide +kernel
theorem dX7_flicker_162 : decode cX7_flicker 162 = .ok (.goto 13, 3) := by decide +kernel
theorem dX7_flicker_165 : decode cX7_flicker 165 = .ok (.iload_n 3, 1) := by decide +kernel
theorem dX7_flicker_166 : decode cX7_flicker 166 = .ok (.ifCond .ne 6, 3) := by decide +kernel
theorem dX7_flicker_169 : decode cX7_flicker 169 = .ok (.iload 4, 2) := by decide +kernel
theorem dX7_flicker_17 : decode cX7_flicker 17 = .ok (.getfield 71, 3) := by decide +kernel
theorem dX7_flicker_171 : decode cX7_flicker 171 = .ok (.ireturn, 1) := by decide +kernel
theorem dX7_flicker_172 : decode cX7_flicker 172 = .ok (.iinc 3 (-1), 3) := by decide +kernel
theorem dX7_flicker_175 : decode cX7_flicker 175 = .ok (.iinc 4 1, 3) := by decide +kernel
theorem dX7_flicker_178 : decode cX7_flicker 178 = .ok (.goto (-64), 3) := by decide +kernel
theorem dX7_flicker_181 : decode cX7_flicker 181 = .ok (.iconst (-1), 1) := by decide +kernel
theorem dX7_flicker_182 : decode cX7_flicker 182 = .ok (.ireturn, 1) := by decide +kernel
theorem dX7_flicker_2 : decode cX7_flicker 2 = .ok (.invokevirtual 301, 3) := by decide +kernel
theorem dX7_flicker_20 : decode cX7_flicker 20 = .ok (.iload_n 1, 1) := by decide +kernel
theorem dX7_flicker_21 : decode cX7_flicker 21 = .ok (.iaload, 1) := by decide +kernel
theorem dX7_flicker_22 : decode cX7_flicker 22 = .ok (.iconst 1, 1) := by decide +kernel
theorem dX7_flicker_23 : decode cX7_flicker 23 = .ok (.if_icmp .gt 7, 3) := by decide +kernel
theorem dX7_flicker_26 : decode cX7_flicker 26 = .ok (.iload_n 2, 1) := by decide +kernel
theorem dX7_flicker_27 : decode cX7_flicker 27 = .ok (.ifCond .ge 5, 3) := by decide +kernel
theorem dX7_flicker_30 : decode cX7_flicker 30 = .ok (.iconst (-1), 1) := by decide +kernel
theorem dX7_flicker_31 : decode cX7_flicker 31 = .ok (.ireturn, 1) := by decide +kernel
theorem dX7_flicker_32 : decode cX7_flicker 32 = .ok (.iconst 0, 1) := by decide +kernel
theorem dX7_flicker_33 : decode cX7_flicker 33 = .ok (.istore_n 3, 1) := by decide +kernel
theorem dX7_flicker_34 : decode cX7_flicker 34 = .ok (.iload_n 3, 1) := by decide +kernel
theorem dX7_flicker_35 : decode cX7_flicker 35 = .ok (.aload_n 0, 1) := by decide +kernel
theorem dX7_flicker_36 : decode cX7_flicker 36 = .ok (.getfield 261, 3) := by decide +kernel
theorem dX7_flicker_39 : decode cX7_flicker 39 = .ok (.if_icmp .ge 33, 3) := by decide +kernel
theorem dX7_flicker_42 : decode cX7_flicker 42 = .ok (.aload_n 0, 1) := by decide +kernel
theorem dX7_flicker_43 : decode cX7_flicker 43 = .ok (.getfield 80, 3) := by decide +kernel
theorem dX7_flicker_46 : decode cX7_flicker 46 = .ok (.iload_n 3, 1) := by decide +kernel
theorem dX7_flicker_47 : decode cX7_flicker 47 = .ok (.aload_n 0, 1) := by decide +kernel
theorem dX7_flicker_48 : decode cX7_flicker 48 = .ok (.getfield 71, 3) := by decide +kernel
theorem dX7_flicker_5 : decode cX7_flicker 5 = .ok (.ifCond .eq 25, 3) := by decide +kernel
theorem dX7_flicker_51 : decode cX7_flicker 51 = .ok (.iload_n 3, 1) := by decide +kernel
theorem dX7_flicker_52 : decode cX7_flicker 52 = .ok (.iaload, 1) := by decide +kernel
theorem dX7_flicker_53 : decode cX7_flicker 53 = .ok (.iastore, 1) := by decide +kernel
theorem dX7_flicker_54 : decode cX7_flicker 54 = .ok (.aload_n 0, 1) := by decide +kernel
theorem dX7_flicker_55 : decode cX7_flicker 55 = .ok (.getfield 83, 3) := by decide +kernel
theorem dX7_flicker_58 : decode cX7_flicker 58 = .ok (.iload_n 3, 1) := by decide +kernel
theorem dX7_flicker_59 : decode cX7_flicker 59 = .ok (.aload_n 0, 1) := by decide +kernel
theorem dX7_flicker_60 : decode cX7_flicker 60 = .ok (.getfield 71, 3) := by decide +kernel
theorem dX7_flicker_63 : decode cX7_flicker 63 = .ok (.iload_n 3, 1) := by decide +kernel
theorem dX7_flicker_64 : decode cX7_flicker 64 = .ok (.iaload, 1) := by decide +kernel
theorem dX7_flicker_65 : decode cX7_flicker 65 = .ok (.iastore, 1) := by decide +kernel
theorem dX7_flicker_66 : decode cX7_flicker 66 = .ok (.iinc 3 1, 3) := by decide +kernel
theorem dX7_flicker_69 : decode cX7_flicker 69 = .ok (.goto (-35), 3) := by decide +kernel
theorem dX7_flicker_72 : decode cX7_flicker 72 = .ok (.aload_n 0, 1) := by decide +kernel
theorem dX7_flicker_73 : decode cX7_flicker 73 = .ok (.getfield 80, 3) := by decide +kernel
theorem dX7_flicker_76 : decode cX7_flicker 76 = .ok (.iload_n 1, 1) := by decide +kernel
theorem dX7_flicker_77 : decode cX7_flicker 77 = .ok (.iconst 1, 1) := by decide +kernel
theorem dX7_flicker_78 : decode cX7_flicker 78 = .ok (.aload_n 0, 1) := by decide +kernel
theorem dX7_flicker_79 : decode cX7_flicker 79 = .ok (.getfield 71, 3) := by decide +kernel
theorem dX7_flicker_8 : decode cX7_flicker 8 = .ok (.aload_n 0, 1) := by decide +kernel
theorem dX7_flicker_82 : decode cX7_flicker 82 = .ok (.iload_n 1, 1) := by decide +kernel
theorem dX7_flicker_83 : decode cX7_flicker 83 = .ok (.iaload, 1) := by decide +kernel
theorem dX7_flicker_84 : decode cX7_flicker 84 = .ok (.isub, 1) := by decide +kernel
theorem dX7_flicker_85 : decode cX7_flicker 85 = .ok (.iastore, 1) := by decide +kernel
theorem dX7_flicker_86 : decode cX7_flicker 86 = .ok (.aload_n 0, 1) := by decide +kernel
theorem dX7_flicker_87 : decode cX7_flicker 87 = .ok (.getfield 83, 3) := by decide +kernel
theorem dX7_flicker_9 : decode cX7_flicker 9 = .ok (.iload_n 1, 1) := by decide +kernel
theorem dX7_flicker_90 : decode cX7_flicker 90 = .ok (.iload_n 1, 1) := by decide +kernel
theorem dX7_flicker_91 : decode cX7_flicker 91 = .ok (.iconst 2, 1) := by decide +kernel
theorem dX7_flicker_92 : decode cX7_flicker 92 = .ok (.iastore, 1) := by decide +kernel
theorem dX7_flicker_93 : decode cX7_flicker 93 = .ok (.aload_n 0, 1) := by decide +kernel
theorem dX7_flicker_94 : decode cX7_flicker 94 = .ok (.aload_n 0, 1) := by decide +kernel
theorem dX7_flicker_95 : decode cX7_flicker 95 = .ok (.getfield 80, 3) := by decide +kernel
theorem dX7_flicker_98 : decode cX7_flicker 98 = .ok (.invokevirtual 291, 3) := by decide +kernel
theorem dX7_follow_0 : decode cX7_follow 0 = .ok (.iconst 0, 1) := by decide +kernel
theorem dX7_follow_1 : decode cX7_follow 1 = .ok (.istore_n 2, 1) := by decide +kernel
theorem dX7_follow_10 : decode cX7_follow 10 = .ok (.iconst 0, 1) := by decide +kernel
theorem dX7_follow_11 : decode cX7_follow 11 = .ok (.istore_n 3, 1) := by decide +kernel
theorem dX7_follow_12 : decode cX7_follow 12 = .ok (.iload_n 3, 1) := by decide +kernel
theorem dX7_follow_13 : decode cX7_follow 13 = .ok (.aload_n 0, 1) := by decide +kernel
theorem dX7_follow_14 : decode cX7_follow 14 = .ok (.getfield 261, 3) := by decide +kernel
theorem dX7_follow_17 : decode cX7_follow 17 = .ok (.if_icmp .ge 72, 3) := by decide +kernel
theorem dX7_follow_2 : decode cX7_follow 2 = .ok (.iload_n 2, 1) := by decide +kernel
theorem dX7_follow_20 : decode cX7_follow 20 = .ok (.aload_n 0, 1) := by decide +kernel
theorem dX7_follow_21 : decode cX7_follow 21 = .ok (.getfield 40, 3) := by decide +kernel
theorem dX7_follow_24 : decode cX7_follow 24 = .ok (.bipush 60, 2) := by decide +kernel
theorem dX7_follow_26 : decode cX7_follow 26 = .ok (.aload_n 0, 1) := by decide +kernel
theorem dX7_follow_27 : decode cX7_follow 27 = .ok (.getfield 188, 3) := by decide +kernel
theorem dX7_follow_3 : decode cX7_follow 3 = .ok (.aload_n 0, 1) := by decide +kernel
theorem dX7_follow_30 : decode cX7_follow 30 = .ok (.imul, 1) := by decide +kernel
theorem dX7_follow_31 : decode cX7_follow 31 = .ok (.iload_n 3, 1) := by decide +kernel
theorem dX7_follow_32 : decode cX7_follow 32 = .ok (.iadd, 1) := by decide +kernel
theorem dX7_follow_33 : decode cX7_follow 33 = .ok (.iaload, 1) := by decide +kernel
theorem dX7_follow_34 : decode cX7_follow 34 = .ok (.iload_n 2, 1) := by decide +kernel
theorem dX7_follow_35 : decode cX7_follow 35 = .ok (.if_icmp .ne 48, 3) := by decide +kernel
theorem dX7_follow_38 : decode cX7_follow 38 = .ok (.aload_n 0, 1) := by decide +kernel
theorem dX7_follow_39 : decode cX7_follow 39 = .ok (.iload_n 3, 1) := by decide +kernel
theorem dX7_follow_4 : decode cX7_follow 4 = .ok (.getfield 261, 3) := by decide +kernel
theorem dX7_follow_40 : decode cX7_follow 40 = .ok (.invokevirtual 271, 3) := by decide +kernel
theorem dX7_follow_43 : decode cX7_follow 43 = .ok (.iconst 2, 1) := by decide +kernel
theorem dX7_follow_44 : decode cX7_follow 44 = .ok (.if_icmp .eq 12, 3) := by decide +kernel
theorem dX7_follow_47 : decode cX7_follow 47 = .ok (.aload_n 0, 1) := by decide +kernel
theorem dX7_follow_48 : decode cX7_follow 48 = .ok (.iload_n 3, 1) := by decide +kernel
theorem dX7_follow_49 : decode cX7_follow 49 = .ok (.invokevirtual 271, 3) := by decide +kernel
theorem dX7_follow_52 : decode cX7_follow 52 = .ok (.iconst 1, 1) := by decide +kernel
theorem dX7_follow_53 : decode cX7_follow 53 = .ok (.if_icmp .ne 30, 3) := by decide +kernel
theorem dX7_follow_56 : decode cX7_follow 56 = .ok (.aload_n 1, 1) := by decide +kernel
theorem dX7_follow_57 : decode cX7_follow 57 = .ok (.iload_n 3, 1) := by decide +kernel
theorem dX7_follow_58 : decode cX7_follow 58 = .ok (.aload_n 0, 1) := by decide +kernel
theorem dX7_follow_59 : decode cX7_follow 59 = .ok (.iload_n 3, 1) := by decide +kernel
theorem dX7_follow_60 : decode cX7_follow 60 = .ok (.invokevirtual 271, 3) := by decide +kernel
theorem dX7_follow_63 : decode cX7_follow 63 = .ok (.iconst 2, 1) := by decide +kernel
theorem dX7_follow_64 : decode cX7_follow 64 = .ok (.if_icmp .ne 12, 3) := by decide +kernel
theorem dX7_follow_67 : decode cX7_follow 67 = .ok (.aload_n 0, 1) := by decide +kernel
theorem dX7_follow_68 : decode cX7_follow 68 = .ok (.iload_n 3, 1) := by decide +kernel
theorem dX7_follow_69 : decode cX7_follow 69 = .ok (.aload_n 1, 1) := by decide +kernel
theorem dX7_follow_7 : decode cX7_follow 7 = .ok (.if_icmp .gt 88, 3) := by decide +kernel
theorem dX7_follow_70 : decode cX7_follow 70 = .ok (.invokevirtual 284, 3) := by decide +kernel
theorem dX7_follow_73 : decode cX7_follow 73 = .ok (.goto 9, 3) := by decide +kernel
theorem dX7_follow_76 : decode cX7_follow 76 = .ok (.aload_n 0, 1) := by decide +kernel
theorem dX7_follow_77 : decode cX7_follow 77 = .ok (.iload_n 3, 1) := by decide +kernel
theorem dX7_follow_78 : decode cX7_follow 78 = .ok (.aload_n 1, 1) := by decide +kernel
theorem dX7_follow_79 : decode cX7_follow 79 = .ok (.invokevirtual 288, 3) := by decide +kernel
theorem dX7_follow_82 : decode cX7_follow 82 = .ok (.iastore, 1) := by decide +kernel
theorem dX7_follow_83 : decode cX7_follow 83 = .ok (.iinc 3 1, 3) := by decide +kernel
theorem dX7_follow_86 : decode cX7_follow 86 = .ok (.goto (-74), 3) := by decide +kernel
theorem dX7_follow_89 : decode cX7_follow 89 = .ok (.iinc 2 1, 3) := by decide +kernel
theorem dX7_follow_92 : decode cX7_follow 92 = .ok (.goto (-90), 3) := by decide +kernel
theorem dX7_follow_95 : decode cX7_follow 95 = .ok (.return_, 1) := by decide +kernel
theorem dX7_gainsaid_0 : decode cX7_gainsaid 0 = .ok (.aload_n 0, 1) := by decide +kernel
theorem dX7_gainsaid_1 : decode cX7_gainsaid 1 = .ok (.invokevirtual 310, 3) := by decide +kernel
theorem dX7_gainsaid_10 : decode cX7_gainsaid 10 = .ok (.if_icmp .le 6, 3) := by decide +kernel
theorem dX7_gainsaid_100 : decode cX7_gainsaid 100 = .ok (.ireturn, 1) := by decide +kernel
theorem dX7_gainsaid_13 : decode cX7_gainsaid 13 = .ok (.bipush (-2), 2) := by decide +kernel
theorem dX7_gainsaid_15 : decode cX7_gainsaid 15 = .ok (.ireturn, 1) := by decide +kernel
theorem dX7_gainsaid_16 : decode cX7_gainsaid 16 = .ok (.iconst (-1), 1) := by decide +kernel
theorem dX7_gainsaid_17 : decode cX7_gainsaid 17 = .ok (.istore_n 1, 1) := by decide +kernel
theorem dX7_gainsaid_18 : decode cX7_gainsaid 18 = .ok (.iconst 0, 1) := by decide +kernel
theorem dX7_gainsaid_19 : decode cX7_gainsaid 19 = .ok (.istore_n 2, 1) := by decide +kernel
theorem dX7_gainsaid_20 : decode cX7_gainsaid 20 = .ok (.iload_n 2, 1) := by decide +kernel
theorem dX7_gainsaid_21 : decode cX7_gainsaid 21 = .ok (.iconst 1, 1) := by decide +kernel
theorem dX7_gainsaid_22 : decode cX7_gainsaid 22 = .ok (.aload_n 0, 1) := by decide +kernel
theorem dX7_gainsaid_23 : decode cX7_gainsaid 23 = .ok (.getfield 304, 3) := by decide +kernel
theorem dX7_gainsaid_26 : decode cX7_gainsaid 26 = .ok (.ishl, 1) := by decide +kernel
theorem dX7_gainsaid_27 : decode cX7_gainsaid 27 = .ok (.if_icmp .ge 72, 3) := by decide +kernel
theorem dX7_gainsaid_30 : decode cX7_gainsaid 30 = .ok (.aload_n 0, 1) := by decide +kernel
theorem dX7_gainsaid_31 : decode cX7_gainsaid 31 = .ok (.iload_n 2, 1) := by decide +kernel
theorem dX7_gainsaid_32 : decode cX7_gainsaid 32 = .ok (.invokevirtual 313, 3) := by decide +kernel
theorem dX7_gainsaid_35 : decode cX7_gainsaid 35 = .ok (.ifCond .ne 6, 3) := by decide +kernel
theorem dX7_gainsaid_38 : decode cX7_gainsaid 38 = .ok (.goto 55, 3) := by decide +kernel
theorem dX7_gainsaid_4 : decode cX7_gainsaid 4 = .ok (.aload_n 0, 1) := by decide +kernel
theorem dX7_gainsaid_41 : decode cX7_gainsaid 41 = .ok (.iconst 0, 1) := by decide +kernel
theorem dX7_gainsaid_42 : decode cX7_gainsaid 42 = .ok (.istore_n 3, 1) := by decide +kernel
theorem dX7_gainsaid_43 : decode cX7_gainsaid 43 = .ok (.iload_n 3, 1) := by decide +kernel
theorem dX7_gainsaid_44 : decode cX7_gainsaid 44 = .ok (.aload_n 0, 1) := by decide +kernel
theorem dX7_gainsaid_45 : decode cX7_gainsaid 45 = .ok (.getfield 261, 3) := by decide +kernel
theorem dX7_gainsaid_48 : decode cX7_gainsaid 48 = .ok (.if_icmp .ge 45, 3) := by decide +kernel
theorem dX7_gainsaid_5 : decode cX7_gainsaid 5 = .ok (.getfield 304, 3) := by decide +kernel
theorem dX7_gainsaid_51 : decode cX7_gainsaid 51 = .ok (.iload_n 1, 1) := by decide +kernel
theorem dX7_gainsaid_52 : decode cX7_gainsaid 52 = .ok (.ifCond .lt 8, 3) := by decide +kernel
theorem dX7_gainsaid_55 : decode cX7_gainsaid 55 = .ok (.iload_n 3, 1) := by decide +kernel
theorem dX7_gainsaid_56 : decode cX7_gainsaid 56 = .ok (.iload_n 1, 1) := by decide +kernel
theorem dX7_gainsaid_57 : decode cX7_gainsaid 57 = .ok (.if_icmp .ge 36, 3) := by decide +kernel
theorem dX7_gainsaid_60 : decode cX7_gainsaid 60 = .ok (.aload_n 0, 1) := by decide +kernel
theorem dX7_gainsaid_61 : decode cX7_gainsaid 61 = .ok (.getfield 74, 3) := by decide +kernel
theorem dX7_gainsaid_64 : decode cX7_gainsaid 64 = .ok (.iload_n 3, 1) := by decide +kernel
theorem dX7_gainsaid_65 : decode cX7_gainsaid 65 = .ok (.iaload, 1) := by decide +kernel
theorem dX7_gainsaid_66 : decode cX7_gainsaid 66 = .ok (.iconst 2, 1) := by decide +kernel
theorem dX7_gainsaid_67 : decode cX7_gainsaid 67 = .ok (.if_icmp .ge 20, 3) := by decide +kernel
theorem dX7_gainsaid_70 : decode cX7_gainsaid 70 = .ok (.aload_n 0, 1) := by decide +kernel
theorem dX7_gainsaid_71 : decode cX7_gainsaid 71 = .ok (.getfield 77, 3) := by decide +kernel
theorem dX7_gainsaid_74 : decode cX7_gainsaid 74 = .ok (.iload_n 3, 1) := by decide +kernel
theorem dX7_gainsaid_75 : decode cX7_gainsaid 75 = .ok (.iaload, 1) := by decide +kernel
theorem dX7_gainsaid_76 : decode cX7_gainsaid 76 = .ok (.aload_n 0, 1) := by decide +kernel
theorem dX7_gainsaid_77 : decode cX7_gainsaid 77 = .ok (.getfield 74, 3) := by decide +kernel
theorem dX7_gainsaid_8 : decode cX7_gainsaid 8 = .ok (.bipush 12, 2) := by decide +kernel
theorem dX7_gainsaid_80 : decode cX7_gainsaid 80 = .ok (.iload_n 3, 1) := by decide +kernel
theorem dX7_gainsaid_81 : decode cX7_gainsaid 81 = .ok (.iaload, 1) := by decide +kernel
theorem dX7_gainsaid_82 : decode cX7_gainsaid 82 = .ok (.if_icmp .eq 5, 3) := by decide +kernel
theorem dX7_gainsaid_85 : decode cX7_gainsaid 85 = .ok (.iload_n 3, 1) := by decide +kernel
theorem dX7_gainsaid_86 : decode cX7_gainsaid 86 = .ok (.istore_n 1, 1) := by decide +kernel
theorem dX7_gainsaid_87 : decode cX7_gainsaid 87 = .ok (.iinc 3 1, 3) := by decide +kernel
theorem dX7_gainsaid_90 : decode cX7_gainsaid 90 = .ok (.goto (-47), 3) := by decide +kernel
theorem dX7_gainsaid_93 : decode cX7_gainsaid 93 = .ok (.iinc 2 1, 3) := by decide +kernel
theorem dX7_gainsaid_96 : decode cX7_gainsaid 96 = .ok (.goto (-76), 3) := by decide +kernel
theorem dX7_gainsaid_99 : decode cX7_gainsaid 99 = .ok (.iload_n 1, 1) := by decide +kernel
theorem dX7_gateOf_0 : decode cX7_gateOf 0 = .ok (.lload_n 0, 1) := by decide +kernel
theorem dX7_gateOf_1 : decode cX7_gateOf 1 = .ok (.ldc2_w 113, 3) := by decide +kernel
theorem dX7_gateOf_10 : decode cX7_gateOf 10 = .ok (.lload_n 0, 1) := by decide +kernel
theorem dX7_gateOf_11 : decode cX7_gateOf 11 = .ok (.ldc2_w 115, 3) := by decide +kernel
theorem dX7_gateOf_14 : decode cX7_gateOf 14 = .ok (.lcmp, 1) := by decide +kernel
theorem dX7_gateOf_15 : decode cX7_gateOf 15 = .ok (.ifCond .ne 5, 3) := by decide +kernel
theorem dX7_gateOf_18 : decode cX7_gateOf 18 = .ok (.iconst 1, 1) := by decide +kernel
theorem dX7_gateOf_19 : decode cX7_gateOf 19 = .ok (.ireturn, 1) := by decide +kernel
theorem dX7_gateOf_20 : decode cX7_gateOf 20 = .ok (.lload_n 0, 1) := by decide +kernel
theorem dX7_gateOf_21 : decode cX7_gateOf 21 = .ok (.ldc2_w 117, 3) := by decide +kernel
theorem dX7_gateOf_24 : decode cX7_gateOf 24 = .ok (.lcmp, 1) := by decide +kernel
theorem dX7_gateOf_25 : decode cX7_gateOf 25 = .ok (.ifCond .ne 5, 3) := by decide +kernel
theorem dX7_gateOf_28 : decode cX7_gateOf 28 = .ok (.iconst 2, 1) := by decide +kernel
theorem dX7_gateOf_29 : decode cX7_gateOf 29 = .ok (.ireturn, 1) := by decide +kernel
theorem dX7_gateOf_30 : decode cX7_gateOf 30 = .ok (.lload_n 0, 1) := by decide +kernel
theorem dX7_gateOf_31 : decode cX7_gateOf 31 = .ok (.ldc2_w 119, 3) := by decide +kernel
theorem dX7_gateOf_34 : decode cX7_gateOf 34 = .ok (.lcmp, 1) := by decide +kernel
theorem dX7_gateOf_35 : decode cX7_gateOf 35 = .ok (.ifCond .ne 5, 3) := by decide +kernel
theorem dX7_gateOf_38 : decode cX7_gateOf 38 = .ok (.iconst 3, 1) := by decide +kernel
theorem dX7_gateOf_39 : decode cX7_gateOf 39 = .ok (.ireturn, 1) := by decide +kernel
theorem dX7_gateOf_4 : decode cX7_gateOf 4 = .ok (.lcmp, 1) := by decide +kernel
theorem dX7_gateOf_40 : decode cX7_gateOf 40 = .ok (.lload_n 0, 1) := by decide +kernel
theorem dX7_gateOf_41 : decode cX7_gateOf 41 = .ok (.ldc2_w 121, 3) := by decide +kernel
theorem dX7_gateOf_44 : decode cX7_gateOf 44 = .ok (.lcmp, 1) := by decide +kernel
theorem dX7_gateOf_45 : decode cX7_gateOf 45 = .ok (.ifCond .ne 5, 3) := by decide +kernel
theorem dX7_gateOf_48 : decode cX7_gateOf 48 = .ok (.iconst 4, 1) := by decide +kernel
theorem dX7_gateOf_49 : decode cX7_gateOf 49 = .ok (.ireturn, 1) := by decide +kernel
theorem dX7_gateOf_5 : decode cX7_gateOf 5 = .ok (.ifCond .ne 5, 3) := by decide +kernel
theorem dX7_gateOf_50 : decode cX7_gateOf 50 = .ok (.lload_n 0, 1) := by decide +kernel
theorem dX7_gateOf_51 : decode cX7_gateOf 51 = .ok (.ldc2_w 123, 3) := by decide +kernel
theorem dX7_gateOf_54 : decode cX7_gateOf 54 = .ok (.lcmp, 1) := by decide +kernel
theorem dX7_gateOf_55 : decode cX7_gateOf 55 = .ok (.ifCond .ne 5, 3) := by decide +kernel
theorem dX7_gateOf_58 : decode cX7_gateOf 58 = .ok (.iconst 5, 1) := by decide +kernel
theorem dX7_gateOf_59 : decode cX7_gateOf 59 = .ok (.ireturn, 1) := by decide +kernel
theorem dX7_gateOf_60 : decode cX7_gateOf 60 = .ok (.lload_n 0, 1) := by decide +kernel
theorem dX7_gateOf_61 : decode cX7_gateOf 61 = .ok (.ldc2_w 125, 3) := by decide +kernel
theorem dX7_gateOf_64 : decode cX7_gateOf 64 = .ok (.lcmp, 1) := by decide +kernel
theorem dX7_gateOf_65 : decode cX7_gateOf 65 = .ok (.ifCond .ne 6, 3) := by decide +kernel
theorem dX7_gateOf_68 : decode cX7_gateOf 68 = .ok (.bipush 6, 2) := by decide +kernel
theorem dX7_gateOf_70 : decode cX7_gateOf 70 = .ok (.ireturn, 1) := by decide +kernel
theorem dX7_gateOf_71 : decode cX7_gateOf 71 = .ok (.lload_n 0, 1) := by decide +kernel
theorem dX7_gateOf_72 : decode cX7_gateOf 72 = .ok (.ldc2_w 127, 3) := by decide +kernel
theorem dX7_gateOf_75 : decode cX7_gateOf 75 = .ok (.lcmp, 1) := by decide +kernel
theorem dX7_gateOf_76 : decode cX7_gateOf 76 = .ok (.ifCond .ne 6, 3) := by decide +kernel
theorem dX7_gateOf_79 : decode cX7_gateOf 79 = .ok (.bipush 7, 2) := by decide +kernel
theorem dX7_gateOf_8 : decode cX7_gateOf 8 = .ok (.iconst 0, 1) := by decide +kernel
theorem dX7_gateOf_81 : decode cX7_gateOf 81 = .ok (.ireturn, 1) := by decide +kernel
theorem dX7_gateOf_82 : decode cX7_gateOf 82 = .ok (.lload_n 0, 1) := by decide +kernel
theorem dX7_gateOf_83 : decode cX7_gateOf 83 = .ok (.ldc2_w 129, 3) := by decide +kernel
theorem dX7_gateOf_86 : decode cX7_gateOf 86 = .ok (.lcmp, 1) := by decide +kernel
theorem dX7_gateOf_87 : decode cX7_gateOf 87 = .ok (.ifCond .ne 6, 3) := by decide +kernel
theorem dX7_gateOf_9 : decode cX7_gateOf 9 = .ok (.ireturn, 1) := by decide +kernel
theorem dX7_gateOf_90 : decode cX7_gateOf 90 = .ok (.bipush 8, 2) := by decide +kernel
theorem dX7_gateOf_92 : decode cX7_gateOf 92 = .ok (.ireturn, 1) := by decide +kernel
theorem dX7_gateOf_93 : decode cX7_gateOf 93 = .ok (.iconst (-1), 1) := by decide +kernel
theorem dX7_gateOf_94 : decode cX7_gateOf 94 = .ok (.ireturn, 1) := by decide +kernel
theorem dX7_gate_0 : decode cX7_gate 0 = .ok (.bipush 60, 2) := by decide +kernel
theorem dX7_gate_10 : decode cX7_gate 10 = .ok (.aload_n 0, 1) := by decide +kernel
theorem dX7_gate_100 : decode cX7_gate 100 = .ok (.istore 5, 2) := by decide +kernel
theorem dX7_gate_102 : decode cX7_gate 102 = .ok (.iconst 0, 1) := by decide +kernel
theorem dX7_gate_103 : decode cX7_gate 103 = .ok (.istore 6, 2) := by decide +kernel
theorem dX7_gate_105 : decode cX7_gate 105 = .ok (.iconst 0, 1) := by decide +kernel
theorem dX7_gate_106 : decode cX7_gate 106 = .ok (.istore 7, 2) := by decide +kernel
theorem dX7_gate_108 : decode cX7_gate 108 = .ok (.iload 7, 2) := by decide +kernel
theorem dX7_gate_11 : decode cX7_gate 11 = .ok (.getfield 28, 3) := by decide +kernel
theorem dX7_gate_110 : decode cX7_gate 110 = .ok (.aload_n 0, 1) := by decide +kernel
theorem dX7_gate_111 : decode cX7_gate 111 = .ok (.getfield 31, 3) := by decide +kernel
theorem dX7_gate_114 : decode cX7_gate 114 = .ok (.iload_n 3, 1) := by decide +kernel
theorem dX7_gate_115 : decode cX7_gate 115 = .ok (.iaload, 1) := by decide +kernel
theorem dX7_gate_116 : decode cX7_gate 116 = .ok (.if_icmp .ge 54, 3) := by decide +kernel
theorem dX7_gate_119 : decode cX7_gate 119 = .ok (.aload_n 2, 1) := by decide +kernel
theorem dX7_gate_120 : decode cX7_gate 120 = .ok (.aload_n 0, 1) := by decide +kernel
theorem dX7_gate_121 : decode cX7_gate 121 = .ok (.iload_n 1, 1) := by decide +kernel
theorem dX7_gate_122 : decode cX7_gate 122 = .ok (.iload 7, 2) := by decide +kernel
theorem dX7_gate_124 : decode cX7_gate 124 = .ok (.invokevirtual 277, 3) := by decide +kernel
theorem dX7_gate_127 : decode cX7_gate 127 = .ok (.iaload, 1) := by decide +kernel
theorem dX7_gate_128 : decode cX7_gate 128 = .ok (.invokestatic 281, 3) := by decide +kernel
theorem dX7_gate_131 : decode cX7_gate 131 = .ok (.istore 8, 2) := by decide +kernel
theorem dX7_gate_133 : decode cX7_gate 133 = .ok (.iload 5, 2) := by decide +kernel
theorem dX7_gate_135 : decode cX7_gate 135 = .ok (.iload 8, 2) := by decide +kernel
theorem dX7_gate_137 : decode cX7_gate 137 = .ok (.iconst 1, 1) := by decide +kernel
theorem dX7_gate_138 : decode cX7_gate 138 = .ok (.if_icmp .ne 7, 3) := by decide +kernel
theorem dX7_gate_14 : decode cX7_gate 14 = .ok (.iload_n 3, 1) := by decide +kernel
theorem dX7_gate_141 : decode cX7_gate 141 = .ok (.iconst 1, 1) := by decide +kernel
theorem dX7_gate_142 : decode cX7_gate 142 = .ok (.goto 4, 3) := by decide +kernel
theorem dX7_gate_145 : decode cX7_gate 145 = .ok (.iconst 0, 1) := by decide +kernel
theorem dX7_gate_146 : decode cX7_gate 146 = .ok (.iadd, 1) := by decide +kernel
theorem dX7_gate_147 : decode cX7_gate 147 = .ok (.istore 5, 2) := by decide +kernel
theorem dX7_gate_149 : decode cX7_gate 149 = .ok (.iload 6, 2) := by decide +kernel
theorem dX7_gate_15 : decode cX7_gate 15 = .ok (.iaload, 1) := by decide +kernel
theorem dX7_gate_151 : decode cX7_gate 151 = .ok (.iload 8, 2) := by decide +kernel
theorem dX7_gate_153 : decode cX7_gate 153 = .ok (.ifCond .ne 7, 3) := by decide +kernel
theorem dX7_gate_156 : decode cX7_gate 156 = .ok (.iconst 1, 1) := by decide +kernel
theorem dX7_gate_157 : decode cX7_gate 157 = .ok (.goto 4, 3) := by decide +kernel
theorem dX7_gate_16 : decode cX7_gate 16 = .ok (.istore 4, 2) := by decide +kernel
theorem dX7_gate_160 : decode cX7_gate 160 = .ok (.iconst 0, 1) := by decide +kernel
theorem dX7_gate_161 : decode cX7_gate 161 = .ok (.iadd, 1) := by decide +kernel
theorem dX7_gate_162 : decode cX7_gate 162 = .ok (.istore 6, 2) := by decide +kernel
theorem dX7_gate_164 : decode cX7_gate 164 = .ok (.iinc 7 1, 3) := by decide +kernel
theorem dX7_gate_167 : decode cX7_gate 167 = .ok (.goto (-59), 3) := by decide +kernel
theorem dX7_gate_170 : decode cX7_gate 170 = .ok (.iload 5, 2) := by decide +kernel
theorem dX7_gate_172 : decode cX7_gate 172 = .ok (.iload 6, 2) := by decide +kernel
theorem dX7_gate_174 : decode cX7_gate 174 = .ok (.iadd, 1) := by decide +kernel
theorem dX7_gate_175 : decode cX7_gate 175 = .ok (.aload_n 0, 1) := by decide +kernel
theorem dX7_gate_176 : decode cX7_gate 176 = .ok (.getfield 31, 3) := by decide +kernel
theorem dX7_gate_179 : decode cX7_gate 179 = .ok (.iload_n 3, 1) := by decide +kernel
theorem dX7_gate_18 : decode cX7_gate 18 = .ok (.iload 4, 2) := by decide +kernel
theorem dX7_gate_180 : decode cX7_gate 180 = .ok (.iaload, 1) := by decide +kernel
theorem dX7_gate_181 : decode cX7_gate 181 = .ok (.if_icmp .ne 7, 3) := by decide +kernel
theorem dX7_gate_184 : decode cX7_gate 184 = .ok (.iconst 1, 1) := by decide +kernel
theorem dX7_gate_185 : decode cX7_gate 185 = .ok (.goto 4, 3) := by decide +kernel
theorem dX7_gate_188 : decode cX7_gate 188 = .ok (.iconst 0, 1) := by decide +kernel
theorem dX7_gate_189 : decode cX7_gate 189 = .ok (.istore 7, 2) := by decide +kernel
theorem dX7_gate_191 : decode cX7_gate 191 = .ok (.iload 4, 2) := by decide +kernel
theorem dX7_gate_193 : decode cX7_gate 193 = .ok (.ifCond .eq 9, 3) := by decide +kernel
theorem dX7_gate_196 : decode cX7_gate 196 = .ok (.iload 4, 2) := by decide +kernel
theorem dX7_gate_198 : decode cX7_gate 198 = .ok (.iconst 2, 1) := by decide +kernel
theorem dX7_gate_199 : decode cX7_gate 199 = .ok (.if_icmp .ne 25, 3) := by decide +kernel
theorem dX7_gate_2 : decode cX7_gate 2 = .ok (.aload_n 0, 1) := by decide +kernel
theorem dX7_gate_20 : decode cX7_gate 20 = .ok (.bipush 8, 2) := by decide +kernel
theorem dX7_gate_202 : decode cX7_gate 202 = .ok (.iload 6, 2) := by decide +kernel
theorem dX7_gate_204 : decode cX7_gate 204 = .ok (.ifCond .le 7, 3) := by decide +kernel
theorem dX7_gate_207 : decode cX7_gate 207 = .ok (.iconst 0, 1) := by decide +kernel
theorem dX7_gate_208 : decode cX7_gate 208 = .ok (.goto 63, 3) := by decide +kernel
theorem dX7_gate_211 : decode cX7_gate 211 = .ok (.iload 7, 2) := by decide +kernel
theorem dX7_gate_213 : decode cX7_gate 213 = .ok (.ifCond .eq 7, 3) := by decide +kernel
theorem dX7_gate_216 : decode cX7_gate 216 = .ok (.iconst 1, 1) := by decide +kernel
theorem dX7_gate_217 : decode cX7_gate 217 = .ok (.goto 54, 3) := by decide +kernel
theorem dX7_gate_22 : decode cX7_gate 22 = .ok (.if_icmp .ne 77, 3) := by decide +kernel
theorem dX7_gate_220 : decode cX7_gate 220 = .ok (.iconst 2, 1) := by decide +kernel
theorem dX7_gate_221 : decode cX7_gate 221 = .ok (.goto 50, 3) := by decide +kernel
theorem dX7_gate_224 : decode cX7_gate 224 = .ok (.iload 4, 2) := by decide +kernel
theorem dX7_gate_226 : decode cX7_gate 226 = .ok (.iconst 1, 1) := by decide +kernel
theorem dX7_gate_227 : decode cX7_gate 227 = .ok (.if_icmp .eq 9, 3) := by decide +kernel
theorem dX7_gate_230 : decode cX7_gate 230 = .ok (.iload 4, 2) := by decide +kernel
theorem dX7_gate_232 : decode cX7_gate 232 = .ok (.iconst 3, 1) := by decide +kernel
theorem dX7_gate_233 : decode cX7_gate 233 = .ok (.if_icmp .ne 25, 3) := by decide +kernel
theorem dX7_gate_236 : decode cX7_gate 236 = .ok (.iload 5, 2) := by decide +kernel
theorem dX7_gate_238 : decode cX7_gate 238 = .ok (.ifCond .le 7, 3) := by decide +kernel
theorem dX7_gate_241 : decode cX7_gate 241 = .ok (.iconst 1, 1) := by decide +kernel
theorem dX7_gate_242 : decode cX7_gate 242 = .ok (.goto 29, 3) := by decide +kernel
theorem dX7_gate_245 : decode cX7_gate 245 = .ok (.iload 7, 2) := by decide +kernel
theorem dX7_gate_247 : decode cX7_gate 247 = .ok (.ifCond .eq 7, 3) := by decide +kernel
theorem dX7_gate_25 : decode cX7_gate 25 = .ok (.aload_n 2, 1) := by decide +kernel
theorem dX7_gate_250 : decode cX7_gate 250 = .ok (.iconst 0, 1) := by decide +kernel
theorem dX7_gate_251 : decode cX7_gate 251 = .ok (.goto 20, 3) := by decide +kernel
theorem dX7_gate_254 : decode cX7_gate 254 = .ok (.iconst 2, 1) := by decide +kernel
theorem dX7_gate_255 : decode cX7_gate 255 = .ok (.goto 16, 3) := by decide +kernel
theorem dX7_gate_258 : decode cX7_gate 258 = .ok (.iload 7, 2) := by decide +kernel
theorem dX7_gate_26 : decode cX7_gate 26 = .ok (.aload_n 0, 1) := by decide +kernel
theorem dX7_gate_260 : decode cX7_gate 260 = .ok (.ifCond .eq 10, 3) := by decide +kernel
theorem dX7_gate_263 : decode cX7_gate 263 = .ok (.iload 5, 2) := by decide +kernel
theorem dX7_gate_265 : decode cX7_gate 265 = .ok (.iconst 2, 1) := by decide +kernel
theorem dX7_gate_266 : decode cX7_gate 266 = .ok (.irem, 1) := by decide +kernel
theorem dX7_gate_267 : decode cX7_gate 267 = .ok (.goto 4, 3) := by decide +kernel
theorem dX7_gate_27 : decode cX7_gate 27 = .ok (.iload_n 1, 1) := by decide +kernel
theorem dX7_gate_270 : decode cX7_gate 270 = .ok (.iconst 2, 1) := by decide +kernel
theorem dX7_gate_271 : decode cX7_gate 271 = .ok (.istore 8, 2) := by decide +kernel
theorem dX7_gate_273 : decode cX7_gate 273 = .ok (.iload 8, 2) := by decide +kernel
theorem dX7_gate_275 : decode cX7_gate 275 = .ok (.iconst 2, 1) := by decide +kernel
theorem dX7_gate_276 : decode cX7_gate 276 = .ok (.if_icmp .eq 27, 3) := by decide +kernel
theorem dX7_gate_279 : decode cX7_gate 279 = .ok (.iload 4, 2) := by decide +kernel
theorem dX7_gate_28 : decode cX7_gate 28 = .ok (.iconst 0, 1) := by decide +kernel
theorem dX7_gate_281 : decode cX7_gate 281 = .ok (.ifCond .eq 22, 3) := by decide +kernel
theorem dX7_gate_284 : decode cX7_gate 284 = .ok (.iload 4, 2) := by decide +kernel
theorem dX7_gate_286 : decode cX7_gate 286 = .ok (.iconst 1, 1) := by decide +kernel
theorem dX7_gate_287 : decode cX7_gate 287 = .ok (.if_icmp .eq 16, 3) := by decide +kernel
theorem dX7_gate_29 : decode cX7_gate 29 = .ok (.invokevirtual 277, 3) := by decide +kernel
theorem dX7_gate_290 : decode cX7_gate 290 = .ok (.iload 4, 2) := by decide +kernel
theorem dX7_gate_292 : decode cX7_gate 292 = .ok (.iconst 4, 1) := by decide +kernel
theorem dX7_gate_293 : decode cX7_gate 293 = .ok (.if_icmp .eq 10, 3) := by decide +kernel
theorem dX7_gate_296 : decode cX7_gate 296 = .ok (.iload 4, 2) := by decide +kernel
theorem dX7_gate_298 : decode cX7_gate 298 = .ok (.bipush 7, 2) := by decide +kernel
theorem dX7_gate_3 : decode cX7_gate 3 = .ok (.getfield 188, 3) := by decide +kernel
theorem dX7_gate_300 : decode cX7_gate 300 = .ok (.if_icmp .ne 8, 3) := by decide +kernel
theorem dX7_gate_303 : decode cX7_gate 303 = .ok (.iload 8, 2) := by decide +kernel
theorem dX7_gate_305 : decode cX7_gate 305 = .ok (.goto 7, 3) := by decide +kernel
theorem dX7_gate_308 : decode cX7_gate 308 = .ok (.iconst 1, 1) := by decide +kernel
theorem dX7_gate_309 : decode cX7_gate 309 = .ok (.iload 8, 2) := by decide +kernel
theorem dX7_gate_311 : decode cX7_gate 311 = .ok (.isub, 1) := by decide +kernel
theorem dX7_gate_312 : decode cX7_gate 312 = .ok (.ireturn, 1) := by decide +kernel
theorem dX7_gate_32 : decode cX7_gate 32 = .ok (.iaload, 1) := by decide +kernel
theorem dX7_gate_33 : decode cX7_gate 33 = .ok (.invokestatic 281, 3) := by decide +kernel
theorem dX7_gate_36 : decode cX7_gate 36 = .ok (.istore 5, 2) := by decide +kernel
theorem dX7_gate_38 : decode cX7_gate 38 = .ok (.aload_n 2, 1) := by decide +kernel
theorem dX7_gate_39 : decode cX7_gate 39 = .ok (.aload_n 0, 1) := by decide +kernel
theorem dX7_gate_40 : decode cX7_gate 40 = .ok (.iload_n 1, 1) := by decide +kernel
theorem dX7_gate_41 : decode cX7_gate 41 = .ok (.iconst 1, 1) := by decide +kernel
theorem dX7_gate_42 : decode cX7_gate 42 = .ok (.invokevirtual 277, 3) := by decide +kernel
theorem dX7_gate_45 : decode cX7_gate 45 = .ok (.iaload, 1) := by decide +kernel
theorem dX7_gate_46 : decode cX7_gate 46 = .ok (.invokestatic 281, 3) := by decide +kernel
theorem dX7_gate_49 : decode cX7_gate 49 = .ok (.istore 6, 2) := by decide +kernel
theorem dX7_gate_51 : decode cX7_gate 51 = .ok (.aload_n 2, 1) := by decide +kernel
theorem dX7_gate_52 : decode cX7_gate 52 = .ok (.aload_n 0, 1) := by decide +kernel
theorem dX7_gate_53 : decode cX7_gate 53 = .ok (.iload_n 1, 1) := by decide +kernel
theorem dX7_gate_54 : decode cX7_gate 54 = .ok (.iconst 2, 1) := by decide +kernel
theorem dX7_gate_55 : decode cX7_gate 55 = .ok (.invokevirtual 277, 3) := by decide +kernel
theorem dX7_gate_58 : decode cX7_gate 58 = .ok (.iaload, 1) := by decide +kernel
theorem dX7_gate_59 : decode cX7_gate 59 = .ok (.invokestatic 281, 3) := by decide +kernel
theorem dX7_gate_6 : decode cX7_gate 6 = .ok (.imul, 1) := by decide +kernel
theorem dX7_gate_62 : decode cX7_gate 62 = .ok (.istore 7, 2) := by decide +kernel
theorem dX7_gate_64 : decode cX7_gate 64 = .ok (.iload 5, 2) := by decide +kernel
theorem dX7_gate_66 : decode cX7_gate 66 = .ok (.ifCond .ne 8, 3) := by decide +kernel
theorem dX7_gate_69 : decode cX7_gate 69 = .ok (.iload 6, 2) := by decide +kernel
theorem dX7_gate_7 : decode cX7_gate 7 = .ok (.iload_n 1, 1) := by decide +kernel
theorem dX7_gate_71 : decode cX7_gate 71 = .ok (.goto 27, 3) := by decide +kernel
theorem dX7_gate_74 : decode cX7_gate 74 = .ok (.iload 5, 2) := by decide +kernel
theorem dX7_gate_76 : decode cX7_gate 76 = .ok (.iconst 1, 1) := by decide +kernel
theorem dX7_gate_77 : decode cX7_gate 77 = .ok (.if_icmp .ne 8, 3) := by decide +kernel
theorem dX7_gate_8 : decode cX7_gate 8 = .ok (.iadd, 1) := by decide +kernel
theorem dX7_gate_80 : decode cX7_gate 80 = .ok (.iload 7, 2) := by decide +kernel
theorem dX7_gate_82 : decode cX7_gate 82 = .ok (.goto 16, 3) := by decide +kernel
theorem dX7_gate_85 : decode cX7_gate 85 = .ok (.iload 6, 2) := by decide +kernel
theorem dX7_gate_87 : decode cX7_gate 87 = .ok (.iload 7, 2) := by decide +kernel
theorem dX7_gate_89 : decode cX7_gate 89 = .ok (.if_icmp .ne 8, 3) := by decide +kernel
theorem dX7_gate_9 : decode cX7_gate 9 = .ok (.istore_n 3, 1) := by decide +kernel
theorem dX7_gate_92 : decode cX7_gate 92 = .ok (.iload 6, 2) := by decide +kernel
theorem dX7_gate_94 : decode cX7_gate 94 = .ok (.goto 4, 3) := by decide +kernel
theorem dX7_gate_97 : decode cX7_gate 97 = .ok (.iconst 2, 1) := by decide +kernel
theorem dX7_gate_98 : decode cX7_gate 98 = .ok (.ireturn, 1) := by decide +kernel
theorem dX7_gate_99 : decode cX7_gate 99 = .ok (.iconst 0, 1) := by decide +kernel
theorem dX7_goes_0 : decode cX7_goes 0 = .ok (.iconst 0, 1) := by decide +kernel
theorem dX7_goes_1 : decode cX7_goes 1 = .ok (.istore_n 2, 1) := by decide +kernel
theorem dX7_goes_10 : decode cX7_goes 10 = .ok (.aload_n 0, 1) := by decide +kernel
theorem dX7_goes_101 : decode cX7_goes 101 = .ok (.iadd, 1) := by decide +kernel
theorem dX7_goes_102 : decode cX7_goes 102 = .ok (.iaload, 1) := by decide +kernel
theorem dX7_goes_103 : decode cX7_goes 103 = .ok (.iload_n 3, 1) := by decide +kernel
theorem dX7_goes_104 : decode cX7_goes 104 = .ok (.if_icmp .eq 6, 3) := by decide +kernel
theorem dX7_goes_107 : decode cX7_goes 107 = .ok (.goto 59, 3) := by decide +kernel
theorem dX7_goes_11 : decode cX7_goes 11 = .ok (.getfield 77, 3) := by decide +kernel
theorem dX7_goes_110 : decode cX7_goes 110 = .ok (.aload_n 0, 1) := by decide +kernel
theorem dX7_goes_111 : decode cX7_goes 111 = .ok (.iload 4, 2) := by decide +kernel
theorem dX7_goes_113 : decode cX7_goes 113 = .ok (.invokevirtual 271, 3) := by decide +kernel
theorem dX7_goes_116 : decode cX7_goes 116 = .ok (.iconst 2, 1) := by decide +kernel
theorem dX7_goes_117 : decode cX7_goes 117 = .ok (.if_icmp .ne 20, 3) := by decide +kernel
theorem dX7_goes_120 : decode cX7_goes 120 = .ok (.aload_n 0, 1) := by decide +kernel
theorem dX7_goes_121 : decode cX7_goes 121 = .ok (.getfield 77, 3) := by decide +kernel
theorem dX7_goes_124 : decode cX7_goes 124 = .ok (.iload 4, 2) := by decide +kernel
theorem dX7_goes_126 : decode cX7_goes 126 = .ok (.aload_n 0, 1) := by decide +kernel
theorem dX7_goes_127 : decode cX7_goes 127 = .ok (.iload 4, 2) := by decide +kernel
theorem dX7_goes_129 : decode cX7_goes 129 = .ok (.aload_n 0, 1) := by decide +kernel
theorem dX7_goes_130 : decode cX7_goes 130 = .ok (.getfield 77, 3) := by decide +kernel
theorem dX7_goes_133 : decode cX7_goes 133 = .ok (.invokevirtual 284, 3) := by decide +kernel
theorem dX7_goes_136 : decode cX7_goes 136 = .ok (.iastore, 1) := by decide +kernel
theorem dX7_goes_137 : decode cX7_goes 137 = .ok (.aload_n 0, 1) := by decide +kernel
theorem dX7_goes_138 : decode cX7_goes 138 = .ok (.iload 4, 2) := by decide +kernel
theorem dX7_goes_14 : decode cX7_goes 14 = .ok (.iload_n 2, 1) := by decide +kernel
theorem dX7_goes_140 : decode cX7_goes 140 = .ok (.invokevirtual 271, 3) := by decide +kernel
theorem dX7_goes_143 : decode cX7_goes 143 = .ok (.iconst 1, 1) := by decide +kernel
theorem dX7_goes_144 : decode cX7_goes 144 = .ok (.if_icmp .ne 22, 3) := by decide +kernel
theorem dX7_goes_147 : decode cX7_goes 147 = .ok (.iload_n 2, 1) := by decide +kernel
theorem dX7_goes_148 : decode cX7_goes 148 = .ok (.ifCond .eq 16, 3) := by decide +kernel
theorem dX7_goes_15 : decode cX7_goes 15 = .ok (.aload_n 0, 1) := by decide +kernel
theorem dX7_goes_151 : decode cX7_goes 151 = .ok (.aload_n 0, 1) := by decide +kernel
theorem dX7_goes_152 : decode cX7_goes 152 = .ok (.iload 4, 2) := by decide +kernel
theorem dX7_goes_154 : decode cX7_goes 154 = .ok (.invokevirtual 307, 3) := by decide +kernel
theorem dX7_goes_157 : decode cX7_goes 157 = .ok (.ifCond .eq 7, 3) := by decide +kernel
theorem dX7_goes_16 : decode cX7_goes 16 = .ok (.getfield 71, 3) := by decide +kernel
theorem dX7_goes_160 : decode cX7_goes 160 = .ok (.iconst 1, 1) := by decide +kernel
theorem dX7_goes_161 : decode cX7_goes 161 = .ok (.goto 4, 3) := by decide +kernel
theorem dX7_goes_164 : decode cX7_goes 164 = .ok (.iconst 0, 1) := by decide +kernel
theorem dX7_goes_165 : decode cX7_goes 165 = .ok (.istore_n 2, 1) := by decide +kernel
theorem dX7_goes_166 : decode cX7_goes 166 = .ok (.iinc 4 1, 3) := by decide +kernel
theorem dX7_goes_169 : decode cX7_goes 169 = .ok (.goto (-90), 3) := by decide +kernel
theorem dX7_goes_172 : decode cX7_goes 172 = .ok (.iinc 3 1, 3) := by decide +kernel
theorem dX7_goes_175 : decode cX7_goes 175 = .ok (.goto (-111), 3) := by decide +kernel
theorem dX7_goes_178 : decode cX7_goes 178 = .ok (.iload_n 2, 1) := by decide +kernel
theorem dX7_goes_179 : decode cX7_goes 179 = .ok (.ireturn, 1) := by decide +kernel
theorem dX7_goes_19 : decode cX7_goes 19 = .ok (.iload_n 2, 1) := by decide +kernel
theorem dX7_goes_2 : decode cX7_goes 2 = .ok (.iload_n 2, 1) := by decide +kernel
theorem dX7_goes_20 : decode cX7_goes 20 = .ok (.iaload, 1) := by decide +kernel
theorem dX7_goes_21 : decode cX7_goes 21 = .ok (.iastore, 1) := by decide +kernel
theorem dX7_goes_22 : decode cX7_goes 22 = .ok (.iinc 2 1, 3) := by decide +kernel
theorem dX7_goes_25 : decode cX7_goes 25 = .ok (.goto (-23), 3) := by decide +kernel
theorem dX7_goes_28 : decode cX7_goes 28 = .ok (.iconst 0, 1) := by decide +kernel
theorem dX7_goes_29 : decode cX7_goes 29 = .ok (.istore_n 2, 1) := by decide +kernel
theorem dX7_goes_3 : decode cX7_goes 3 = .ok (.aload_n 0, 1) := by decide +kernel
theorem dX7_goes_30 : decode cX7_goes 30 = .ok (.iload_n 2, 1) := by decide +kernel
theorem dX7_goes_31 : decode cX7_goes 31 = .ok (.aload_n 0, 1) := by decide +kernel
theorem dX7_goes_32 : decode cX7_goes 32 = .ok (.getfield 304, 3) := by decide +kernel
theorem dX7_goes_35 : decode cX7_goes 35 = .ok (.if_icmp .ge 25, 3) := by decide +kernel
theorem dX7_goes_38 : decode cX7_goes 38 = .ok (.aload_n 0, 1) := by decide +kernel
theorem dX7_goes_39 : decode cX7_goes 39 = .ok (.getfield 77, 3) := by decide +kernel
theorem dX7_goes_4 : decode cX7_goes 4 = .ok (.getfield 261, 3) := by decide +kernel
theorem dX7_goes_42 : decode cX7_goes 42 = .ok (.aload_n 0, 1) := by decide +kernel
theorem dX7_goes_43 : decode cX7_goes 43 = .ok (.getfield 86, 3) := by decide +kernel
theorem dX7_goes_46 : decode cX7_goes 46 = .ok (.iload_n 2, 1) := by decide +kernel
theorem dX7_goes_47 : decode cX7_goes 47 = .ok (.iaload, 1) := by decide +kernel
theorem dX7_goes_48 : decode cX7_goes 48 = .ok (.iload_n 1, 1) := by decide +kernel
theorem dX7_goes_49 : decode cX7_goes 49 = .ok (.iload_n 2, 1) := by decide +kernel
theorem dX7_goes_50 : decode cX7_goes 50 = .ok (.ishr, 1) := by decide +kernel
theorem dX7_goes_51 : decode cX7_goes 51 = .ok (.iconst 1, 1) := by decide +kernel
theorem dX7_goes_52 : decode cX7_goes 52 = .ok (.iand, 1) := by decide +kernel
theorem dX7_goes_53 : decode cX7_goes 53 = .ok (.iastore, 1) := by decide +kernel
theorem dX7_goes_54 : decode cX7_goes 54 = .ok (.iinc 2 1, 3) := by decide +kernel
theorem dX7_goes_57 : decode cX7_goes 57 = .ok (.goto (-27), 3) := by decide +kernel
theorem dX7_goes_60 : decode cX7_goes 60 = .ok (.iconst 1, 1) := by decide +kernel
theorem dX7_goes_61 : decode cX7_goes 61 = .ok (.istore_n 2, 1) := by decide +kernel
theorem dX7_goes_62 : decode cX7_goes 62 = .ok (.iconst 0, 1) := by decide +kernel
theorem dX7_goes_63 : decode cX7_goes 63 = .ok (.istore_n 3, 1) := by decide +kernel
theorem dX7_goes_64 : decode cX7_goes 64 = .ok (.iload_n 3, 1) := by decide +kernel
theorem dX7_goes_65 : decode cX7_goes 65 = .ok (.aload_n 0, 1) := by decide +kernel
theorem dX7_goes_66 : decode cX7_goes 66 = .ok (.getfield 261, 3) := by decide +kernel
theorem dX7_goes_69 : decode cX7_goes 69 = .ok (.if_icmp .gt 109, 3) := by decide +kernel
theorem dX7_goes_7 : decode cX7_goes 7 = .ok (.if_icmp .ge 21, 3) := by decide +kernel
theorem dX7_goes_72 : decode cX7_goes 72 = .ok (.iload_n 2, 1) := by decide +kernel
theorem dX7_goes_73 : decode cX7_goes 73 = .ok (.ifCond .eq 105, 3) := by decide +kernel
theorem dX7_goes_76 : decode cX7_goes 76 = .ok (.iconst 0, 1) := by decide +kernel
theorem dX7_goes_77 : decode cX7_goes 77 = .ok (.istore 4, 2) := by decide +kernel
theorem dX7_goes_79 : decode cX7_goes 79 = .ok (.iload 4, 2) := by decide +kernel
theorem dX7_goes_81 : decode cX7_goes 81 = .ok (.aload_n 0, 1) := by decide +kernel
theorem dX7_goes_82 : decode cX7_goes 82 = .ok (.getfield 261, 3) := by decide +kernel
theorem dX7_goes_85 : decode cX7_goes 85 = .ok (.if_icmp .ge 87, 3) := by decide +kernel
theorem dX7_goes_88 : decode cX7_goes 88 = .ok (.aload_n 0, 1) := by decide +kernel
theorem dX7_goes_89 : decode cX7_goes 89 = .ok (.getfield 40, 3) := by decide +kernel
theorem dX7_goes_92 : decode cX7_goes 92 = .ok (.bipush 60, 2) := by decide +kernel
theorem dX7_goes_94 : decode cX7_goes 94 = .ok (.aload_n 0, 1) := by decide +kernel
theorem dX7_goes_95 : decode cX7_goes 95 = .ok (.getfield 188, 3) := by decide +kernel
theorem dX7_goes_98 : decode cX7_goes 98 = .ok (.imul, 1) := by decide +kernel
theorem dX7_goes_99 : decode cX7_goes 99 = .ok (.iload 4, 2) := by decide +kernel
theorem dX7_hangsOnItself_0 : decode cX7_hangsOnItself 0 = .ok (.iconst 0, 1) := by decide +kernel
theorem dX7_hangsOnItself_1 : decode cX7_hangsOnItself 1 = .ok (.istore_n 2, 1) := by decide +kernel
theorem dX7_hangsOnItself_10 : decode cX7_hangsOnItself 10 = .ok (.aload_n 0, 1) := by decide +kernel
theorem dX7_hangsOnItself_11 : decode cX7_hangsOnItself 11 = .ok (.getfield 68, 3) := by decide +kernel
theorem dX7_hangsOnItself_14 : decode cX7_hangsOnItself 14 = .ok (.iload_n 2, 1) := by decide +kernel
theorem dX7_hangsOnItself_15 : decode cX7_hangsOnItself 15 = .ok (.iconst 0, 1) := by decide +kernel
theorem dX7_hangsOnItself_16 : decode cX7_hangsOnItself 16 = .ok (.bastore, 1) := by decide +kernel
theorem dX7_hangsOnItself_17 : decode cX7_hangsOnItself 17 = .ok (.iinc 2 1, 3) := by decide +kernel
theorem dX7_hangsOnItself_2 : decode cX7_hangsOnItself 2 = .ok (.iload_n 2, 1) := by decide +kernel
theorem dX7_hangsOnItself_20 : decode cX7_hangsOnItself 20 = .ok (.goto (-18), 3) := by decide +kernel
theorem dX7_hangsOnItself_23 : decode cX7_hangsOnItself 23 = .ok (.aload_n 0, 1) := by decide +kernel
theorem dX7_hangsOnItself_24 : decode cX7_hangsOnItself 24 = .ok (.iload_n 1, 1) := by decide +kernel
theorem dX7_hangsOnItself_25 : decode cX7_hangsOnItself 25 = .ok (.invokevirtual 246, 3) := by decide +kernel
theorem dX7_hangsOnItself_28 : decode cX7_hangsOnItself 28 = .ok (.iconst 0, 1) := by decide +kernel
theorem dX7_hangsOnItself_29 : decode cX7_hangsOnItself 29 = .ok (.istore_n 2, 1) := by decide +kernel
theorem dX7_hangsOnItself_3 : decode cX7_hangsOnItself 3 = .ok (.aload_n 0, 1) := by decide +kernel
theorem dX7_hangsOnItself_30 : decode cX7_hangsOnItself 30 = .ok (.iload_n 2, 1) := by decide +kernel
theorem dX7_hangsOnItself_31 : decode cX7_hangsOnItself 31 = .ok (.aload_n 0, 1) := by decide +kernel
theorem dX7_hangsOnItself_32 : decode cX7_hangsOnItself 32 = .ok (.getfield 185, 3) := by decide +kernel
theorem dX7_hangsOnItself_35 : decode cX7_hangsOnItself 35 = .ok (.if_icmp .ge 39, 3) := by decide +kernel
theorem dX7_hangsOnItself_38 : decode cX7_hangsOnItself 38 = .ok (.iconst 0, 1) := by decide +kernel
theorem dX7_hangsOnItself_39 : decode cX7_hangsOnItself 39 = .ok (.istore_n 3, 1) := by decide +kernel
theorem dX7_hangsOnItself_4 : decode cX7_hangsOnItself 4 = .ok (.getfield 185, 3) := by decide +kernel
theorem dX7_hangsOnItself_40 : decode cX7_hangsOnItself 40 = .ok (.iload_n 3, 1) := by decide +kernel
theorem dX7_hangsOnItself_41 : decode cX7_hangsOnItself 41 = .ok (.aload_n 0, 1) := by decide +kernel
theorem dX7_hangsOnItself_42 : decode cX7_hangsOnItself 42 = .ok (.getfield 185, 3) := by decide +kernel
theorem dX7_hangsOnItself_45 : decode cX7_hangsOnItself 45 = .ok (.if_icmp .ge 23, 3) := by decide +kernel
theorem dX7_hangsOnItself_48 : decode cX7_hangsOnItself 48 = .ok (.aload_n 0, 1) := by decide +kernel
theorem dX7_hangsOnItself_49 : decode cX7_hangsOnItself 49 = .ok (.getfield 68, 3) := by decide +kernel
theorem dX7_hangsOnItself_52 : decode cX7_hangsOnItself 52 = .ok (.iload_n 3, 1) := by decide +kernel
theorem dX7_hangsOnItself_53 : decode cX7_hangsOnItself 53 = .ok (.baload, 1) := by decide +kernel
theorem dX7_hangsOnItself_54 : decode cX7_hangsOnItself 54 = .ok (.ifCond .eq 8, 3) := by decide +kernel
theorem dX7_hangsOnItself_57 : decode cX7_hangsOnItself 57 = .ok (.aload_n 0, 1) := by decide +kernel
theorem dX7_hangsOnItself_58 : decode cX7_hangsOnItself 58 = .ok (.iload_n 3, 1) := by decide +kernel
theorem dX7_hangsOnItself_59 : decode cX7_hangsOnItself 59 = .ok (.invokevirtual 246, 3) := by decide +kernel
theorem dX7_hangsOnItself_62 : decode cX7_hangsOnItself 62 = .ok (.iinc 3 1, 3) := by decide +kernel
theorem dX7_hangsOnItself_65 : decode cX7_hangsOnItself 65 = .ok (.goto (-25), 3) := by decide +kernel
theorem dX7_hangsOnItself_68 : decode cX7_hangsOnItself 68 = .ok (.iinc 2 1, 3) := by decide +kernel
theorem dX7_hangsOnItself_7 : decode cX7_hangsOnItself 7 = .ok (.if_icmp .ge 16, 3) := by decide +kernel
theorem dX7_hangsOnItself_71 : decode cX7_hangsOnItself 71 = .ok (.goto (-41), 3) := by decide +kernel
theorem dX7_hangsOnItself_74 : decode cX7_hangsOnItself 74 = .ok (.aload_n 0, 1) := by decide +kernel
theorem dX7_hangsOnItself_75 : decode cX7_hangsOnItself 75 = .ok (.getfield 68, 3) := by decide +kernel
theorem dX7_hangsOnItself_78 : decode cX7_hangsOnItself 78 = .ok (.iload_n 1, 1) := by decide +kernel
theorem dX7_hangsOnItself_79 : decode cX7_hangsOnItself 79 = .ok (.baload, 1) := by decide +kernel
theorem dX7_hangsOnItself_80 : decode cX7_hangsOnItself 80 = .ok (.ireturn, 1) := by decide +kernel
theorem dX7_hangs_0 : decode cX7_hangs 0 = .ok (.aload_n 0, 1) := by decide +kernel
theorem dX7_hangs_1 : decode cX7_hangs 1 = .ok (.getfield 24, 3) := by decide +kernel
theorem dX7_hangs_10 : decode cX7_hangs 10 = .ok (.aload_n 0, 1) := by decide +kernel
theorem dX7_hangs_11 : decode cX7_hangs 11 = .ok (.getfield 31, 3) := by decide +kernel
theorem dX7_hangs_14 : decode cX7_hangs 14 = .ok (.iload_n 1, 1) := by decide +kernel
theorem dX7_hangs_15 : decode cX7_hangs 15 = .ok (.iaload, 1) := by decide +kernel
theorem dX7_hangs_16 : decode cX7_hangs 16 = .ok (.goto 25, 3) := by decide +kernel
theorem dX7_hangs_19 : decode cX7_hangs 19 = .ok (.aload_n 0, 1) := by decide +kernel
theorem dX7_hangs_20 : decode cX7_hangs 20 = .ok (.getfield 24, 3) := by decide +kernel
theorem dX7_hangs_23 : decode cX7_hangs 23 = .ok (.iload_n 1, 1) := by decide +kernel
theorem dX7_hangs_24 : decode cX7_hangs 24 = .ok (.iaload, 1) := by decide +kernel
theorem dX7_hangs_25 : decode cX7_hangs 25 = .ok (.iconst 1, 1) := by decide +kernel
theorem dX7_hangs_26 : decode cX7_hangs 26 = .ok (.if_icmp .ne 14, 3) := by decide +kernel
theorem dX7_hangs_29 : decode cX7_hangs 29 = .ok (.iconst 2, 1) := by decide +kernel
theorem dX7_hangs_30 : decode cX7_hangs 30 = .ok (.aload_n 0, 1) := by decide +kernel
theorem dX7_hangs_31 : decode cX7_hangs 31 = .ok (.getfield 31, 3) := by decide +kernel
theorem dX7_hangs_34 : decode cX7_hangs 34 = .ok (.iload_n 1, 1) := by decide +kernel
theorem dX7_hangs_35 : decode cX7_hangs 35 = .ok (.iaload, 1) := by decide +kernel
theorem dX7_hangs_36 : decode cX7_hangs 36 = .ok (.imul, 1) := by decide +kernel
theorem dX7_hangs_37 : decode cX7_hangs 37 = .ok (.goto 4, 3) := by decide +kernel
theorem dX7_hangs_4 : decode cX7_hangs 4 = .ok (.iload_n 1, 1) := by decide +kernel
theorem dX7_hangs_40 : decode cX7_hangs 40 = .ok (.iconst 0, 1) := by decide +kernel
theorem dX7_hangs_41 : decode cX7_hangs 41 = .ok (.ireturn, 1) := by decide +kernel
theorem dX7_hangs_5 : decode cX7_hangs 5 = .ok (.iaload, 1) := by decide +kernel
theorem dX7_hangs_6 : decode cX7_hangs 6 = .ok (.iconst 2, 1) := by decide +kernel
theorem dX7_hangs_7 : decode cX7_hangs 7 = .ok (.if_icmp .ne 12, 3) := by decide +kernel
theorem dX7_hasChanged_0 : decode cX7_hasChanged 0 = .ok (.iconst 0, 1) := by decide +kernel
theorem dX7_hasChanged_1 : decode cX7_hasChanged 1 = .ok (.istore_n 2, 1) := by decide +kernel
theorem dX7_hasChanged_12 : decode cX7_hasChanged 12 = .ok (.imul, 1) := by decide +kernel
theorem dX7_hasChanged_13 : decode cX7_hasChanged 13 = .ok (.iload_n 1, 1) := by decide +kernel
theorem dX7_hasChanged_14 : decode cX7_hasChanged 14 = .ok (.iadd, 1) := by decide +kernel
theorem dX7_hasChanged_15 : decode cX7_hasChanged 15 = .ok (.invokevirtual 240, 3) := by decide +kernel
theorem dX7_hasChanged_18 : decode cX7_hasChanged 18 = .ok (.if_icmp .ge 33, 3) := by decide +kernel
theorem dX7_hasChanged_2 : decode cX7_hasChanged 2 = .ok (.iconst 0, 1) := by decide +kernel
theorem dX7_hasChanged_21 : decode cX7_hasChanged 21 = .ok (.iload_n 2, 1) := by decide +kernel
theorem dX7_hasChanged_22 : decode cX7_hasChanged 22 = .ok (.ifCond .ne 17, 3) := by decide +kernel
theorem dX7_hasChanged_25 : decode cX7_hasChanged 25 = .ok (.aload_n 0, 1) := by decide +kernel
theorem dX7_hasChanged_26 : decode cX7_hasChanged 26 = .ok (.getfield 104, 3) := by decide +kernel
theorem dX7_hasChanged_29 : decode cX7_hasChanged 29 = .ok (.aload_n 0, 1) := by decide +kernel
theorem dX7_hasChanged_3 : decode cX7_hasChanged 3 = .ok (.istore_n 3, 1) := by decide +kernel
theorem dX7_hasChanged_30 : decode cX7_hasChanged 30 = .ok (.iload_n 1, 1) := by decide +kernel
theorem dX7_hasChanged_31 : decode cX7_hasChanged 31 = .ok (.iload_n 3, 1) := by decide +kernel
theorem dX7_hasChanged_32 : decode cX7_hasChanged 32 = .ok (.invokevirtual 277, 3) := by decide +kernel
theorem dX7_hasChanged_35 : decode cX7_hasChanged 35 = .ok (.baload, 1) := by decide +kernel
theorem dX7_hasChanged_36 : decode cX7_hasChanged 36 = .ok (.ifCond .eq 7, 3) := by decide +kernel
theorem dX7_hasChanged_39 : decode cX7_hasChanged 39 = .ok (.iconst 1, 1) := by decide +kernel
theorem dX7_hasChanged_4 : decode cX7_hasChanged 4 = .ok (.iload_n 3, 1) := by decide +kernel
theorem dX7_hasChanged_40 : decode cX7_hasChanged 40 = .ok (.goto 4, 3) := by decide +kernel
theorem dX7_hasChanged_43 : decode cX7_hasChanged 43 = .ok (.iconst 0, 1) := by decide +kernel
theorem dX7_hasChanged_44 : decode cX7_hasChanged 44 = .ok (.istore_n 2, 1) := by decide +kernel
theorem dX7_hasChanged_45 : decode cX7_hasChanged 45 = .ok (.iinc 3 1, 3) := by decide +kernel
theorem dX7_hasChanged_48 : decode cX7_hasChanged 48 = .ok (.goto (-44), 3) := by decide +kernel
theorem dX7_hasChanged_5 : decode cX7_hasChanged 5 = .ok (.aload_n 0, 1) := by decide +kernel
theorem dX7_hasChanged_51 : decode cX7_hasChanged 51 = .ok (.iload_n 2, 1) := by decide +kernel
theorem dX7_hasChanged_52 : decode cX7_hasChanged 52 = .ok (.ireturn, 1) := by decide +kernel
theorem dX7_hasChanged_6 : decode cX7_hasChanged 6 = .ok (.bipush 60, 2) := by decide +kernel
theorem dX7_hasChanged_8 : decode cX7_hasChanged 8 = .ok (.aload_n 0, 1) := by decide +kernel
theorem dX7_hasChanged_9 : decode cX7_hasChanged 9 = .ok (.getfield 188, 3) := by decide +kernel
theorem dX7_in_0 : decode cX7_in 0 = .ok (.aload_n 0, 1) := by decide +kernel
theorem dX7_in_1 : decode cX7_in 1 = .ok (.getfield 37, 3) := by decide +kernel
theorem dX7_in_12 : decode cX7_in 12 = .ok (.imul, 1) := by decide +kernel
theorem dX7_in_13 : decode cX7_in 13 = .ok (.iload_n 1, 1) := by decide +kernel
theorem dX7_in_14 : decode cX7_in 14 = .ok (.iadd, 1) := by decide +kernel
theorem dX7_in_15 : decode cX7_in 15 = .ok (.imul, 1) := by decide +kernel
theorem dX7_in_16 : decode cX7_in 16 = .ok (.iload_n 2, 1) := by decide +kernel
theorem dX7_in_17 : decode cX7_in 17 = .ok (.iadd, 1) := by decide +kernel
theorem dX7_in_18 : decode cX7_in 18 = .ok (.iaload, 1) := by decide +kernel
theorem dX7_in_19 : decode cX7_in 19 = .ok (.ireturn, 1) := by decide +kernel
theorem dX7_in_4 : decode cX7_in 4 = .ok (.bipush 12, 2) := by decide +kernel
theorem dX7_in_6 : decode cX7_in 6 = .ok (.bipush 60, 2) := by decide +kernel
theorem dX7_in_8 : decode cX7_in 8 = .ok (.aload_n 0, 1) := by decide +kernel
theorem dX7_in_9 : decode cX7_in 9 = .ok (.getfield 188, 3) := by decide +kernel
theorem dX7_isDigit_0 : decode cX7_isDigit 0 = .ok (.iload_n 0, 1) := by decide +kernel
theorem dX7_isDigit_1 : decode cX7_isDigit 1 = .ok (.bipush 48, 2) := by decide +kernel
theorem dX7_isDigit_12 : decode cX7_isDigit 12 = .ok (.iconst 1, 1) := by decide +kernel
theorem dX7_isDigit_13 : decode cX7_isDigit 13 = .ok (.goto 4, 3) := by decide +kernel
theorem dX7_isDigit_16 : decode cX7_isDigit 16 = .ok (.iconst 0, 1) := by decide +kernel
theorem dX7_isDigit_17 : decode cX7_isDigit 17 = .ok (.ireturn, 1) := by decide +kernel
theorem dX7_isDigit_3 : decode cX7_isDigit 3 = .ok (.if_icmp .lt 13, 3) := by decide +kernel
theorem dX7_isDigit_6 : decode cX7_isDigit 6 = .ok (.iload_n 0, 1) := by decide +kernel
theorem dX7_isDigit_7 : decode cX7_isDigit 7 = .ok (.bipush 57, 2) := by decide +kernel
theorem dX7_isDigit_9 : decode cX7_isDigit 9 = .ok (.if_icmp .gt 7, 3) := by decide +kernel
theorem dX7_isGood_0 : decode cX7_isGood 0 = .ok (.aload_n 0, 1) := by decide +kernel
theorem dX7_isGood_1 : decode cX7_isGood 1 = .ok (.getfield 110, 3) := by decide +kernel
theorem dX7_isGood_11 : decode cX7_isGood 11 = .ok (.iconst 0, 1) := by decide +kernel
theorem dX7_isGood_12 : decode cX7_isGood 12 = .ok (.ireturn, 1) := by decide +kernel
theorem dX7_isGood_4 : decode cX7_isGood 4 = .ok (.ifCond .ne 7, 3) := by decide +kernel
theorem dX7_isGood_7 : decode cX7_isGood 7 = .ok (.iconst 1, 1) := by decide +kernel
theorem dX7_isGood_8 : decode cX7_isGood 8 = .ok (.goto 4, 3) := by decide +kernel
theorem dX7_isLetter_0 : decode cX7_isLetter 0 = .ok (.iload_n 0, 1) := by decide +kernel
theorem dX7_isLetter_1 : decode cX7_isLetter 1 = .ok (.bipush 97, 2) := by decide +kernel
theorem dX7_isLetter_12 : decode cX7_isLetter 12 = .ok (.iconst 1, 1) := by decide +kernel
theorem dX7_isLetter_13 : decode cX7_isLetter 13 = .ok (.goto 4, 3) := by decide +kernel
theorem dX7_isLetter_16 : decode cX7_isLetter 16 = .ok (.iconst 0, 1) := by decide +kernel
theorem dX7_isLetter_17 : decode cX7_isLetter 17 = .ok (.ireturn, 1) := by decide +kernel
theorem dX7_isLetter_3 : decode cX7_isLetter 3 = .ok (.if_icmp .lt 13, 3) := by decide +kernel
theorem dX7_isLetter_6 : decode cX7_isLetter 6 = .ok (.iload_n 0, 1) := by decide +kernel
theorem dX7_isLetter_7 : decode cX7_isLetter 7 = .ok (.bipush 122, 2) := by decide +kernel
theorem dX7_isLetter_9 : decode cX7_isLetter 9 = .ok (.if_icmp .gt 7, 3) := by decide +kernel
theorem dX7_isNode_0 : decode cX7_isNode 0 = .ok (.iload_n 1, 1) := by decide +kernel
theorem dX7_isNode_1 : decode cX7_isNode 1 = .ok (.ifCond .lt 15, 3) := by decide +kernel
theorem dX7_isNode_12 : decode cX7_isNode 12 = .ok (.iconst 1, 1) := by decide +kernel
theorem dX7_isNode_13 : decode cX7_isNode 13 = .ok (.goto 4, 3) := by decide +kernel
theorem dX7_isNode_16 : decode cX7_isNode 16 = .ok (.iconst 0, 1) := by decide +kernel
theorem dX7_isNode_17 : decode cX7_isNode 17 = .ok (.ireturn, 1) := by decide +kernel
theorem dX7_isNode_4 : decode cX7_isNode 4 = .ok (.iload_n 1, 1) := by decide +kernel
theorem dX7_isNode_5 : decode cX7_isNode 5 = .ok (.aload_n 0, 1) := by decide +kernel
theorem dX7_isNode_6 : decode cX7_isNode 6 = .ok (.getfield 261, 3) := by decide +kernel
theorem dX7_isNode_9 : decode cX7_isNode 9 = .ok (.if_icmp .ge 7, 3) := by decide +kernel
theorem dX7_isOfDriver_0 : decode cX7_isOfDriver 0 = .ok (.iconst 0, 1) := by decide +kernel
theorem dX7_isOfDriver_1 : decode cX7_isOfDriver 1 = .ok (.istore_n 2, 1) := by decide +kernel
theorem dX7_isOfDriver_12 : decode cX7_isOfDriver 12 = .ok (.iload_n 2, 1) := by decide +kernel
theorem dX7_isOfDriver_13 : decode cX7_isOfDriver 13 = .ok (.ifCond .ne 27, 3) := by decide +kernel
theorem dX7_isOfDriver_16 : decode cX7_isOfDriver 16 = .ok (.iload_n 1, 1) := by decide +kernel
theorem dX7_isOfDriver_17 : decode cX7_isOfDriver 17 = .ok (.aload_n 0, 1) := by decide +kernel
theorem dX7_isOfDriver_18 : decode cX7_isOfDriver 18 = .ok (.getfield 62, 3) := by decide +kernel
theorem dX7_isOfDriver_2 : decode cX7_isOfDriver 2 = .ok (.iconst 0, 1) := by decide +kernel
theorem dX7_isOfDriver_21 : decode cX7_isOfDriver 21 = .ok (.iload_n 3, 1) := by decide +kernel
theorem dX7_isOfDriver_22 : decode cX7_isOfDriver 22 = .ok (.iaload, 1) := by decide +kernel
theorem dX7_isOfDriver_23 : decode cX7_isOfDriver 23 = .ok (.iconst 1, 1) := by decide +kernel
theorem dX7_isOfDriver_24 : decode cX7_isOfDriver 24 = .ok (.iadd, 1) := by decide +kernel
theorem dX7_isOfDriver_25 : decode cX7_isOfDriver 25 = .ok (.if_icmp .eq 15, 3) := by decide +kernel
theorem dX7_isOfDriver_28 : decode cX7_isOfDriver 28 = .ok (.iload_n 1, 1) := by decide +kernel
theorem dX7_isOfDriver_29 : decode cX7_isOfDriver 29 = .ok (.aload_n 0, 1) := by decide +kernel
theorem dX7_isOfDriver_3 : decode cX7_isOfDriver 3 = .ok (.istore_n 3, 1) := by decide +kernel
theorem dX7_isOfDriver_30 : decode cX7_isOfDriver 30 = .ok (.getfield 62, 3) := by decide +kernel
theorem dX7_isOfDriver_33 : decode cX7_isOfDriver 33 = .ok (.iload_n 3, 1) := by decide +kernel
theorem dX7_isOfDriver_34 : decode cX7_isOfDriver 34 = .ok (.iaload, 1) := by decide +kernel
theorem dX7_isOfDriver_35 : decode cX7_isOfDriver 35 = .ok (.iconst 2, 1) := by decide +kernel
theorem dX7_isOfDriver_36 : decode cX7_isOfDriver 36 = .ok (.iadd, 1) := by decide +kernel
theorem dX7_isOfDriver_37 : decode cX7_isOfDriver 37 = .ok (.if_icmp .ne 7, 3) := by decide +kernel
theorem dX7_isOfDriver_4 : decode cX7_isOfDriver 4 = .ok (.iload_n 3, 1) := by decide +kernel
theorem dX7_isOfDriver_40 : decode cX7_isOfDriver 40 = .ok (.iconst 1, 1) := by decide +kernel
theorem dX7_isOfDriver_41 : decode cX7_isOfDriver 41 = .ok (.goto 4, 3) := by decide +kernel
theorem dX7_isOfDriver_44 : decode cX7_isOfDriver 44 = .ok (.iconst 0, 1) := by decide +kernel
theorem dX7_isOfDriver_45 : decode cX7_isOfDriver 45 = .ok (.istore_n 2, 1) := by decide +kernel
theorem dX7_isOfDriver_46 : decode cX7_isOfDriver 46 = .ok (.iinc 3 1, 3) := by decide +kernel
theorem dX7_isOfDriver_49 : decode cX7_isOfDriver 49 = .ok (.goto (-45), 3) := by decide +kernel
theorem dX7_isOfDriver_5 : decode cX7_isOfDriver 5 = .ok (.aload_n 0, 1) := by decide +kernel
theorem dX7_isOfDriver_52 : decode cX7_isOfDriver 52 = .ok (.iload_n 2, 1) := by decide +kernel
theorem dX7_isOfDriver_53 : decode cX7_isOfDriver 53 = .ok (.ireturn, 1) := by decide +kernel
theorem dX7_isOfDriver_6 : decode cX7_isOfDriver 6 = .ok (.getfield 217, 3) := by decide +kernel
theorem dX7_isOfDriver_9 : decode cX7_isOfDriver 9 = .ok (.if_icmp .ge 43, 3) := by decide +kernel
theorem dX7_isQuiet_0 : decode cX7_isQuiet 0 = .ok (.aload_n 0, 1) := by decide +kernel
theorem dX7_isQuiet_1 : decode cX7_isQuiet 1 = .ok (.getfield 319, 3) := by decide +kernel
theorem dX7_isQuiet_11 : decode cX7_isQuiet 11 = .ok (.iconst 0, 1) := by decide +kernel
theorem dX7_isQuiet_12 : decode cX7_isQuiet 12 = .ok (.istore_n 1, 1) := by decide +kernel
theorem dX7_isQuiet_13 : decode cX7_isQuiet 13 = .ok (.iconst 0, 1) := by decide +kernel
theorem dX7_isQuiet_14 : decode cX7_isQuiet 14 = .ok (.istore_n 2, 1) := by decide +kernel
theorem dX7_isQuiet_15 : decode cX7_isQuiet 15 = .ok (.iload_n 2, 1) := by decide +kernel
theorem dX7_isQuiet_16 : decode cX7_isQuiet 16 = .ok (.aload_n 0, 1) := by decide +kernel
theorem dX7_isQuiet_17 : decode cX7_isQuiet 17 = .ok (.getfield 261, 3) := by decide +kernel
theorem dX7_isQuiet_20 : decode cX7_isQuiet 20 = .ok (.if_icmp .ge 28, 3) := by decide +kernel
theorem dX7_isQuiet_23 : decode cX7_isQuiet 23 = .ok (.iload_n 1, 1) := by decide +kernel
theorem dX7_isQuiet_24 : decode cX7_isQuiet 24 = .ok (.ifCond .eq 16, 3) := by decide +kernel
theorem dX7_isQuiet_27 : decode cX7_isQuiet 27 = .ok (.aload_n 0, 1) := by decide +kernel
theorem dX7_isQuiet_28 : decode cX7_isQuiet 28 = .ok (.getfield 104, 3) := by decide +kernel
theorem dX7_isQuiet_31 : decode cX7_isQuiet 31 = .ok (.iload_n 2, 1) := by decide +kernel
theorem dX7_isQuiet_32 : decode cX7_isQuiet 32 = .ok (.baload, 1) := by decide +kernel
theorem dX7_isQuiet_33 : decode cX7_isQuiet 33 = .ok (.ifCond .ne 7, 3) := by decide +kernel
theorem dX7_isQuiet_36 : decode cX7_isQuiet 36 = .ok (.iconst 1, 1) := by decide +kernel
theorem dX7_isQuiet_37 : decode cX7_isQuiet 37 = .ok (.goto 4, 3) := by decide +kernel
theorem dX7_isQuiet_4 : decode cX7_isQuiet 4 = .ok (.ifCond .ne 7, 3) := by decide +kernel
theorem dX7_isQuiet_40 : decode cX7_isQuiet 40 = .ok (.iconst 0, 1) := by decide +kernel
theorem dX7_isQuiet_41 : decode cX7_isQuiet 41 = .ok (.istore_n 1, 1) := by decide +kernel
theorem dX7_isQuiet_42 : decode cX7_isQuiet 42 = .ok (.iinc 2 1, 3) := by decide +kernel
theorem dX7_isQuiet_45 : decode cX7_isQuiet 45 = .ok (.goto (-30), 3) := by decide +kernel
theorem dX7_isQuiet_48 : decode cX7_isQuiet 48 = .ok (.iload_n 1, 1) := by decide +kernel
theorem dX7_isQuiet_49 : decode cX7_isQuiet 49 = .ok (.ireturn, 1) := by decide +kernel
theorem dX7_isQuiet_7 : decode cX7_isQuiet 7 = .ok (.iconst 1, 1) := by decide +kernel
theorem dX7_isQuiet_8 : decode cX7_isQuiet 8 = .ok (.goto 4, 3) := by decide +kernel
theorem dX7_isWord_0 : decode cX7_isWord 0 = .ok (.aload_n 0, 1) := by decide +kernel
theorem dX7_isWord_1 : decode cX7_isWord 1 = .ok (.getfield 141, 3) := by decide +kernel
theorem dX7_isWord_12 : decode cX7_isWord 12 = .ok (.lload_n 1, 1) := by decide +kernel
theorem dX7_isWord_13 : decode cX7_isWord 13 = .ok (.lcmp, 1) := by decide +kernel
theorem dX7_isWord_14 : decode cX7_isWord 14 = .ok (.ifCond .ne 7, 3) := by decide +kernel
theorem dX7_isWord_17 : decode cX7_isWord 17 = .ok (.iconst 1, 1) := by decide +kernel
theorem dX7_isWord_18 : decode cX7_isWord 18 = .ok (.goto 4, 3) := by decide +kernel
theorem dX7_isWord_21 : decode cX7_isWord 21 = .ok (.iconst 0, 1) := by decide +kernel
theorem dX7_isWord_22 : decode cX7_isWord 22 = .ok (.ireturn, 1) := by decide +kernel
theorem dX7_isWord_4 : decode cX7_isWord 4 = .ok (.iconst 3, 1) := by decide +kernel
theorem dX7_isWord_5 : decode cX7_isWord 5 = .ok (.if_icmp .ne 16, 3) := by decide +kernel
theorem dX7_isWord_8 : decode cX7_isWord 8 = .ok (.aload_n 0, 1) := by decide +kernel
theorem dX7_isWord_9 : decode cX7_isWord 9 = .ok (.getfield 151, 3) := by decide +kernel
theorem dX7_is_0 : decode cX7_is 0 = .ok (.aload_n 0, 1) := by decide +kernel
theorem dX7_is_1 : decode cX7_is 1 = .ok (.getfield 141, 3) := by decide +kernel
theorem dX7_is_10 : decode cX7_is 10 = .ok (.getfield 134, 3) := by decide +kernel
theorem dX7_is_13 : decode cX7_is 13 = .ok (.invokevirtual 137, 3) := by decide +kernel
theorem dX7_is_16 : decode cX7_is 16 = .ok (.iload_n 1, 1) := by decide +kernel
theorem dX7_is_17 : decode cX7_is 17 = .ok (.if_icmp .ne 7, 3) := by decide +kernel
theorem dX7_is_20 : decode cX7_is 20 = .ok (.iconst 1, 1) := by decide +kernel
theorem dX7_is_21 : decode cX7_is 21 = .ok (.goto 4, 3) := by decide +kernel
theorem dX7_is_24 : decode cX7_is 24 = .ok (.iconst 0, 1) := by decide +kernel
theorem dX7_is_25 : decode cX7_is 25 = .ok (.ireturn, 1) := by decide +kernel
theorem dX7_is_4 : decode cX7_is 4 = .ok (.iconst 5, 1) := by decide +kernel
theorem dX7_is_5 : decode cX7_is 5 = .ok (.if_icmp .ne 19, 3) := by decide +kernel
theorem dX7_is_8 : decode cX7_is 8 = .ok (.aload_n 0, 1) := by decide +kernel
theorem dX7_is_9 : decode cX7_is 9 = .ok (.aload_n 0, 1) := by decide +kernel
theorem dX7_kind_0 : decode cX7_kind 0 = .ok (.aload_n 0, 1) := by decide +kernel
theorem dX7_kind_1 : decode cX7_kind 1 = .ok (.getfield 24, 3) := by decide +kernel
theorem dX7_kind_10 : decode cX7_kind 10 = .ok (.imul, 1) := by decide +kernel
theorem dX7_kind_11 : decode cX7_kind 11 = .ok (.iload_n 1, 1) := by decide +kernel
theorem dX7_kind_12 : decode cX7_kind 12 = .ok (.iadd, 1) := by decide +kernel
theorem dX7_kind_13 : decode cX7_kind 13 = .ok (.iaload, 1) := by decide +kernel
theorem dX7_kind_14 : decode cX7_kind 14 = .ok (.ireturn, 1) := by decide +kernel
theorem dX7_kind_4 : decode cX7_kind 4 = .ok (.bipush 60, 2) := by decide +kernel
theorem dX7_kind_6 : decode cX7_kind 6 = .ok (.aload_n 0, 1) := by decide +kernel
theorem dX7_kind_7 : decode cX7_kind 7 = .ok (.getfield 188, 3) := by decide +kernel
theorem dX7_lead_0 : decode cX7_lead 0 = .ok (.bipush 60, 2) := by decide +kernel
theorem dX7_lead_10 : decode cX7_lead 10 = .ok (.iconst 0, 1) := by decide +kernel
theorem dX7_lead_11 : decode cX7_lead 11 = .ok (.istore_n 3, 1) := by decide +kernel
theorem dX7_lead_12 : decode cX7_lead 12 = .ok (.iload_n 3, 1) := by decide +kernel
theorem dX7_lead_13 : decode cX7_lead 13 = .ok (.aload_n 0, 1) := by decide +kernel
theorem dX7_lead_14 : decode cX7_lead 14 = .ok (.iload_n 2, 1) := by decide +kernel
theorem dX7_lead_15 : decode cX7_lead 15 = .ok (.invokevirtual 240, 3) := by decide +kernel
theorem dX7_lead_18 : decode cX7_lead 18 = .ok (.if_icmp .ge 26, 3) := by decide +kernel
theorem dX7_lead_2 : decode cX7_lead 2 = .ok (.aload_n 0, 1) := by decide +kernel
theorem dX7_lead_21 : decode cX7_lead 21 = .ok (.aload_n 0, 1) := by decide +kernel
theorem dX7_lead_22 : decode cX7_lead 22 = .ok (.getfield 68, 3) := by decide +kernel
theorem dX7_lead_25 : decode cX7_lead 25 = .ok (.aload_n 0, 1) := by decide +kernel
theorem dX7_lead_26 : decode cX7_lead 26 = .ok (.getfield 37, 3) := by decide +kernel
theorem dX7_lead_29 : decode cX7_lead 29 = .ok (.bipush 12, 2) := by decide +kernel
theorem dX7_lead_3 : decode cX7_lead 3 = .ok (.getfield 188, 3) := by decide +kernel
theorem dX7_lead_31 : decode cX7_lead 31 = .ok (.iload_n 2, 1) := by decide +kernel
theorem dX7_lead_32 : decode cX7_lead 32 = .ok (.imul, 1) := by decide +kernel
theorem dX7_lead_33 : decode cX7_lead 33 = .ok (.iload_n 3, 1) := by decide +kernel
theorem dX7_lead_34 : decode cX7_lead 34 = .ok (.iadd, 1) := by decide +kernel
theorem dX7_lead_35 : decode cX7_lead 35 = .ok (.iaload, 1) := by decide +kernel
theorem dX7_lead_36 : decode cX7_lead 36 = .ok (.iconst 1, 1) := by decide +kernel
theorem dX7_lead_37 : decode cX7_lead 37 = .ok (.bastore, 1) := by decide +kernel
theorem dX7_lead_38 : decode cX7_lead 38 = .ok (.iinc 3 1, 3) := by decide +kernel
theorem dX7_lead_41 : decode cX7_lead 41 = .ok (.goto (-29), 3) := by decide +kernel
theorem dX7_lead_44 : decode cX7_lead 44 = .ok (.return_, 1) := by decide +kernel
theorem dX7_lead_6 : decode cX7_lead 6 = .ok (.imul, 1) := by decide +kernel
theorem dX7_lead_7 : decode cX7_lead 7 = .ok (.iload_n 1, 1) := by decide +kernel
theorem dX7_lead_8 : decode cX7_lead 8 = .ok (.iadd, 1) := by decide +kernel
theorem dX7_lead_9 : decode cX7_lead 9 = .ok (.istore_n 2, 1) := by decide +kernel
theorem dX7_leastOf_0 : decode cX7_leastOf 0 = .ok (.iload_n 0, 1) := by decide +kernel
theorem dX7_leastOf_1 : decode cX7_leastOf 1 = .ok (.bipush 6, 2) := by decide +kernel
theorem dX7_leastOf_12 : decode cX7_leastOf 12 = .ok (.iconst 1, 1) := by decide +kernel
theorem dX7_leastOf_13 : decode cX7_leastOf 13 = .ok (.goto 14, 3) := by decide +kernel
theorem dX7_leastOf_16 : decode cX7_leastOf 16 = .ok (.iload_n 0, 1) := by decide +kernel
theorem dX7_leastOf_17 : decode cX7_leastOf 17 = .ok (.bipush 8, 2) := by decide +kernel
theorem dX7_leastOf_19 : decode cX7_leastOf 19 = .ok (.if_icmp .ne 7, 3) := by decide +kernel
theorem dX7_leastOf_22 : decode cX7_leastOf 22 = .ok (.iconst 3, 1) := by decide +kernel
theorem dX7_leastOf_23 : decode cX7_leastOf 23 = .ok (.goto 4, 3) := by decide +kernel
theorem dX7_leastOf_26 : decode cX7_leastOf 26 = .ok (.iconst 2, 1) := by decide +kernel
theorem dX7_leastOf_27 : decode cX7_leastOf 27 = .ok (.ireturn, 1) := by decide +kernel
theorem dX7_leastOf_3 : decode cX7_leastOf 3 = .ok (.if_icmp .eq 9, 3) := by decide +kernel
theorem dX7_leastOf_6 : decode cX7_leastOf 6 = .ok (.iload_n 0, 1) := by decide +kernel
theorem dX7_leastOf_7 : decode cX7_leastOf 7 = .ok (.bipush 7, 2) := by decide +kernel
theorem dX7_leastOf_9 : decode cX7_leastOf 9 = .ok (.if_icmp .ne 7, 3) := by decide +kernel
theorem dX7_legal_0 : decode cX7_legal 0 = .ok (.aload_n 0, 1) := by decide +kernel
theorem dX7_legal_1 : decode cX7_legal 1 = .ok (.invokevirtual 310, 3) := by decide +kernel
theorem dX7_legal_10 : decode cX7_legal 10 = .ok (.if_icmp .le 6, 3) := by decide +kernel
theorem dX7_legal_13 : decode cX7_legal 13 = .ok (.bipush (-2), 2) := by decide +kernel
theorem dX7_legal_15 : decode cX7_legal 15 = .ok (.ireturn, 1) := by decide +kernel
theorem dX7_legal_16 : decode cX7_legal 16 = .ok (.iconst 0, 1) := by decide +kernel
theorem dX7_legal_17 : decode cX7_legal 17 = .ok (.istore_n 1, 1) := by decide +kernel
theorem dX7_legal_18 : decode cX7_legal 18 = .ok (.iconst 0, 1) := by decide +kernel
theorem dX7_legal_19 : decode cX7_legal 19 = .ok (.istore_n 2, 1) := by decide +kernel
theorem dX7_legal_20 : decode cX7_legal 20 = .ok (.iload_n 2, 1) := by decide +kernel
theorem dX7_legal_21 : decode cX7_legal 21 = .ok (.iconst 1, 1) := by decide +kernel
theorem dX7_legal_22 : decode cX7_legal 22 = .ok (.aload_n 0, 1) := by decide +kernel
theorem dX7_legal_23 : decode cX7_legal 23 = .ok (.getfield 304, 3) := by decide +kernel
theorem dX7_legal_26 : decode cX7_legal 26 = .ok (.ishl, 1) := by decide +kernel
theorem dX7_legal_27 : decode cX7_legal 27 = .ok (.if_icmp .ge 25, 3) := by decide +kernel
theorem dX7_legal_30 : decode cX7_legal 30 = .ok (.iload_n 1, 1) := by decide +kernel
theorem dX7_legal_31 : decode cX7_legal 31 = .ok (.aload_n 0, 1) := by decide +kernel
theorem dX7_legal_32 : decode cX7_legal 32 = .ok (.iload_n 2, 1) := by decide +kernel
theorem dX7_legal_33 : decode cX7_legal 33 = .ok (.invokevirtual 313, 3) := by decide +kernel
theorem dX7_legal_36 : decode cX7_legal 36 = .ok (.ifCond .eq 7, 3) := by decide +kernel
theorem dX7_legal_39 : decode cX7_legal 39 = .ok (.iconst 1, 1) := by decide +kernel
theorem dX7_legal_4 : decode cX7_legal 4 = .ok (.aload_n 0, 1) := by decide +kernel
theorem dX7_legal_40 : decode cX7_legal 40 = .ok (.goto 4, 3) := by decide +kernel
theorem dX7_legal_43 : decode cX7_legal 43 = .ok (.iconst 0, 1) := by decide +kernel
theorem dX7_legal_44 : decode cX7_legal 44 = .ok (.iadd, 1) := by decide +kernel
theorem dX7_legal_45 : decode cX7_legal 45 = .ok (.istore_n 1, 1) := by decide +kernel
theorem dX7_legal_46 : decode cX7_legal 46 = .ok (.iinc 2 1, 3) := by decide +kernel
theorem dX7_legal_49 : decode cX7_legal 49 = .ok (.goto (-29), 3) := by decide +kernel
theorem dX7_legal_5 : decode cX7_legal 5 = .ok (.getfield 304, 3) := by decide +kernel
theorem dX7_legal_52 : decode cX7_legal 52 = .ok (.iload_n 1, 1) := by decide +kernel
theorem dX7_legal_53 : decode cX7_legal 53 = .ok (.ireturn, 1) := by decide +kernel
theorem dX7_legal_8 : decode cX7_legal 8 = .ok (.bipush 12, 2) := by decide +kernel
theorem dX7_levels_0 : decode cX7_levels 0 = .ok (.iconst 0, 1) := by decide +kernel
theorem dX7_levels_1 : decode cX7_levels 1 = .ok (.istore_n 1, 1) := by decide +kernel
theorem dX7_levels_10 : decode cX7_levels 10 = .ok (.aload_n 0, 1) := by decide +kernel
theorem dX7_levels_100 : decode cX7_levels 100 = .ok (.aload_n 0, 1) := by decide +kernel
theorem dX7_levels_101 : decode cX7_levels 101 = .ok (.getfield 188, 3) := by decide +kernel
theorem dX7_levels_104 : decode cX7_levels 104 = .ok (.imul, 1) := by decide +kernel
theorem dX7_levels_105 : decode cX7_levels 105 = .ok (.aload_n 0, 1) := by decide +kernel
theorem dX7_levels_106 : decode cX7_levels 106 = .ok (.getfield 37, 3) := by decide +kernel
theorem dX7_levels_109 : decode cX7_levels 109 = .ok (.bipush 12, 2) := by decide +kernel
theorem dX7_levels_11 : decode cX7_levels 11 = .ok (.getfield 40, 3) := by decide +kernel
theorem dX7_levels_111 : decode cX7_levels 111 = .ok (.iload_n 3, 1) := by decide +kernel
theorem dX7_levels_112 : decode cX7_levels 112 = .ok (.imul, 1) := by decide +kernel
theorem dX7_levels_113 : decode cX7_levels 113 = .ok (.iload 5, 2) := by decide +kernel
theorem dX7_levels_115 : decode cX7_levels 115 = .ok (.iadd, 1) := by decide +kernel
theorem dX7_levels_116 : decode cX7_levels 116 = .ok (.iaload, 1) := by decide +kernel
theorem dX7_levels_117 : decode cX7_levels 117 = .ok (.iadd, 1) := by decide +kernel
theorem dX7_levels_118 : decode cX7_levels 118 = .ok (.iaload, 1) := by decide +kernel
theorem dX7_levels_119 : decode cX7_levels 119 = .ok (.istore 6, 2) := by decide +kernel
theorem dX7_levels_121 : decode cX7_levels 121 = .ok (.iload 6, 2) := by decide +kernel
theorem dX7_levels_123 : decode cX7_levels 123 = .ok (.ifCond .ge 7, 3) := by decide +kernel
theorem dX7_levels_126 : decode cX7_levels 126 = .ok (.iconst (-1), 1) := by decide +kernel
theorem dX7_levels_127 : decode cX7_levels 127 = .ok (.goto 21, 3) := by decide +kernel
theorem dX7_levels_130 : decode cX7_levels 130 = .ok (.iload 6, 2) := by decide +kernel
theorem dX7_levels_132 : decode cX7_levels 132 = .ok (.iconst 1, 1) := by decide +kernel
theorem dX7_levels_133 : decode cX7_levels 133 = .ok (.iadd, 1) := by decide +kernel
theorem dX7_levels_134 : decode cX7_levels 134 = .ok (.iload 4, 2) := by decide +kernel
theorem dX7_levels_136 : decode cX7_levels 136 = .ok (.if_icmp .le 10, 3) := by decide +kernel
theorem dX7_levels_139 : decode cX7_levels 139 = .ok (.iload 6, 2) := by decide +kernel
theorem dX7_levels_14 : decode cX7_levels 14 = .ok (.bipush 60, 2) := by decide +kernel
theorem dX7_levels_141 : decode cX7_levels 141 = .ok (.iconst 1, 1) := by decide +kernel
theorem dX7_levels_142 : decode cX7_levels 142 = .ok (.iadd, 1) := by decide +kernel
theorem dX7_levels_143 : decode cX7_levels 143 = .ok (.goto 5, 3) := by decide +kernel
theorem dX7_levels_146 : decode cX7_levels 146 = .ok (.iload 4, 2) := by decide +kernel
theorem dX7_levels_148 : decode cX7_levels 148 = .ok (.istore 4, 2) := by decide +kernel
theorem dX7_levels_150 : decode cX7_levels 150 = .ok (.iinc 5 1, 3) := by decide +kernel
theorem dX7_levels_153 : decode cX7_levels 153 = .ok (.goto (-74), 3) := by decide +kernel
theorem dX7_levels_156 : decode cX7_levels 156 = .ok (.aload_n 0, 1) := by decide +kernel
theorem dX7_levels_157 : decode cX7_levels 157 = .ok (.getfield 40, 3) := by decide +kernel
theorem dX7_levels_16 : decode cX7_levels 16 = .ok (.aload_n 0, 1) := by decide +kernel
theorem dX7_levels_160 : decode cX7_levels 160 = .ok (.iload_n 3, 1) := by decide +kernel
theorem dX7_levels_161 : decode cX7_levels 161 = .ok (.iload 4, 2) := by decide +kernel
theorem dX7_levels_163 : decode cX7_levels 163 = .ok (.iastore, 1) := by decide +kernel
theorem dX7_levels_164 : decode cX7_levels 164 = .ok (.iinc 2 1, 3) := by decide +kernel
theorem dX7_levels_167 : decode cX7_levels 167 = .ok (.goto (-124), 3) := by decide +kernel
theorem dX7_levels_17 : decode cX7_levels 17 = .ok (.getfield 188, 3) := by decide +kernel
theorem dX7_levels_170 : decode cX7_levels 170 = .ok (.iinc 1 1, 3) := by decide +kernel
theorem dX7_levels_173 : decode cX7_levels 173 = .ok (.goto (-140), 3) := by decide +kernel
theorem dX7_levels_176 : decode cX7_levels 176 = .ok (.iconst 0, 1) := by decide +kernel
theorem dX7_levels_177 : decode cX7_levels 177 = .ok (.istore_n 1, 1) := by decide +kernel
theorem dX7_levels_178 : decode cX7_levels 178 = .ok (.iload_n 1, 1) := by decide +kernel
theorem dX7_levels_179 : decode cX7_levels 179 = .ok (.aload_n 0, 1) := by decide +kernel
theorem dX7_levels_180 : decode cX7_levels 180 = .ok (.getfield 185, 3) := by decide +kernel
theorem dX7_levels_183 : decode cX7_levels 183 = .ok (.if_icmp .ge 52, 3) := by decide +kernel
theorem dX7_levels_186 : decode cX7_levels 186 = .ok (.aload_n 0, 1) := by decide +kernel
theorem dX7_levels_187 : decode cX7_levels 187 = .ok (.invokevirtual 191, 3) := by decide +kernel
theorem dX7_levels_190 : decode cX7_levels 190 = .ok (.ifCond .eq 45, 3) := by decide +kernel
theorem dX7_levels_193 : decode cX7_levels 193 = .ok (.aload_n 0, 1) := by decide +kernel
theorem dX7_levels_194 : decode cX7_levels 194 = .ok (.getfield 40, 3) := by decide +kernel
theorem dX7_levels_197 : decode cX7_levels 197 = .ok (.bipush 60, 2) := by decide +kernel
theorem dX7_levels_199 : decode cX7_levels 199 = .ok (.aload_n 0, 1) := by decide +kernel
theorem dX7_levels_2 : decode cX7_levels 2 = .ok (.iload_n 1, 1) := by decide +kernel
theorem dX7_levels_20 : decode cX7_levels 20 = .ok (.imul, 1) := by decide +kernel
theorem dX7_levels_200 : decode cX7_levels 200 = .ok (.getfield 188, 3) := by decide +kernel
theorem dX7_levels_203 : decode cX7_levels 203 = .ok (.imul, 1) := by decide +kernel
theorem dX7_levels_204 : decode cX7_levels 204 = .ok (.iload_n 1, 1) := by decide +kernel
theorem dX7_levels_205 : decode cX7_levels 205 = .ok (.iadd, 1) := by decide +kernel
theorem dX7_levels_206 : decode cX7_levels 206 = .ok (.iaload, 1) := by decide +kernel
theorem dX7_levels_207 : decode cX7_levels 207 = .ok (.ifCond .ge 22, 3) := by decide +kernel
theorem dX7_levels_21 : decode cX7_levels 21 = .ok (.iload_n 1, 1) := by decide +kernel
theorem dX7_levels_210 : decode cX7_levels 210 = .ok (.aload_n 0, 1) := by decide +kernel
theorem dX7_levels_211 : decode cX7_levels 211 = .ok (.iload_n 1, 1) := by decide +kernel
theorem dX7_levels_212 : decode cX7_levels 212 = .ok (.invokevirtual 243, 3) := by decide +kernel
theorem dX7_levels_215 : decode cX7_levels 215 = .ok (.ifCond .eq 14, 3) := by decide +kernel
theorem dX7_levels_218 : decode cX7_levels 218 = .ok (.aload_n 0, 1) := by decide +kernel
theorem dX7_levels_219 : decode cX7_levels 219 = .ok (.iconst 5, 1) := by decide +kernel
theorem dX7_levels_22 : decode cX7_levels 22 = .ok (.iadd, 1) := by decide +kernel
theorem dX7_levels_220 : decode cX7_levels 220 = .ok (.aload_n 0, 1) := by decide +kernel
theorem dX7_levels_221 : decode cX7_levels 221 = .ok (.getfield 43, 3) := by decide +kernel
theorem dX7_levels_224 : decode cX7_levels 224 = .ok (.iload_n 1, 1) := by decide +kernel
theorem dX7_levels_225 : decode cX7_levels 225 = .ok (.iaload, 1) := by decide +kernel
theorem dX7_levels_226 : decode cX7_levels 226 = .ok (.invokevirtual 172, 3) := by decide +kernel
theorem dX7_levels_229 : decode cX7_levels 229 = .ok (.iinc 1 1, 3) := by decide +kernel
theorem dX7_levels_23 : decode cX7_levels 23 = .ok (.iconst (-1), 1) := by decide +kernel
theorem dX7_levels_232 : decode cX7_levels 232 = .ok (.goto (-54), 3) := by decide +kernel
theorem dX7_levels_235 : decode cX7_levels 235 = .ok (.return_, 1) := by decide +kernel
theorem dX7_levels_24 : decode cX7_levels 24 = .ok (.iastore, 1) := by decide +kernel
theorem dX7_levels_25 : decode cX7_levels 25 = .ok (.iinc 1 1, 3) := by decide +kernel
theorem dX7_levels_28 : decode cX7_levels 28 = .ok (.goto (-26), 3) := by decide +kernel
theorem dX7_levels_3 : decode cX7_levels 3 = .ok (.aload_n 0, 1) := by decide +kernel
theorem dX7_levels_31 : decode cX7_levels 31 = .ok (.iconst 0, 1) := by decide +kernel
theorem dX7_levels_32 : decode cX7_levels 32 = .ok (.istore_n 1, 1) := by decide +kernel
theorem dX7_levels_33 : decode cX7_levels 33 = .ok (.iload_n 1, 1) := by decide +kernel
theorem dX7_levels_34 : decode cX7_levels 34 = .ok (.aload_n 0, 1) := by decide +kernel
theorem dX7_levels_35 : decode cX7_levels 35 = .ok (.getfield 185, 3) := by decide +kernel
theorem dX7_levels_38 : decode cX7_levels 38 = .ok (.if_icmp .gt 138, 3) := by decide +kernel
theorem dX7_levels_4 : decode cX7_levels 4 = .ok (.getfield 185, 3) := by decide +kernel
theorem dX7_levels_41 : decode cX7_levels 41 = .ok (.iconst 0, 1) := by decide +kernel
theorem dX7_levels_42 : decode cX7_levels 42 = .ok (.istore_n 2, 1) := by decide +kernel
theorem dX7_levels_43 : decode cX7_levels 43 = .ok (.iload_n 2, 1) := by decide +kernel
theorem dX7_levels_44 : decode cX7_levels 44 = .ok (.aload_n 0, 1) := by decide +kernel
theorem dX7_levels_45 : decode cX7_levels 45 = .ok (.getfield 185, 3) := by decide +kernel
theorem dX7_levels_48 : decode cX7_levels 48 = .ok (.if_icmp .ge 122, 3) := by decide +kernel
theorem dX7_levels_51 : decode cX7_levels 51 = .ok (.bipush 60, 2) := by decide +kernel
theorem dX7_levels_53 : decode cX7_levels 53 = .ok (.aload_n 0, 1) := by decide +kernel
theorem dX7_levels_54 : decode cX7_levels 54 = .ok (.getfield 188, 3) := by decide +kernel
theorem dX7_levels_57 : decode cX7_levels 57 = .ok (.imul, 1) := by decide +kernel
theorem dX7_levels_58 : decode cX7_levels 58 = .ok (.iload_n 2, 1) := by decide +kernel
theorem dX7_levels_59 : decode cX7_levels 59 = .ok (.iadd, 1) := by decide +kernel
theorem dX7_levels_60 : decode cX7_levels 60 = .ok (.istore_n 3, 1) := by decide +kernel
theorem dX7_levels_61 : decode cX7_levels 61 = .ok (.aload_n 0, 1) := by decide +kernel
theorem dX7_levels_62 : decode cX7_levels 62 = .ok (.getfield 40, 3) := by decide +kernel
theorem dX7_levels_65 : decode cX7_levels 65 = .ok (.iload_n 3, 1) := by decide +kernel
theorem dX7_levels_66 : decode cX7_levels 66 = .ok (.iaload, 1) := by decide +kernel
theorem dX7_levels_67 : decode cX7_levels 67 = .ok (.ifCond .lt 6, 3) := by decide +kernel
theorem dX7_levels_7 : decode cX7_levels 7 = .ok (.if_icmp .ge 24, 3) := by decide +kernel
theorem dX7_levels_70 : decode cX7_levels 70 = .ok (.goto 94, 3) := by decide +kernel
theorem dX7_levels_73 : decode cX7_levels 73 = .ok (.iconst 0, 1) := by decide +kernel
theorem dX7_levels_74 : decode cX7_levels 74 = .ok (.istore 4, 2) := by decide +kernel
theorem dX7_levels_76 : decode cX7_levels 76 = .ok (.iconst 0, 1) := by decide +kernel
theorem dX7_levels_77 : decode cX7_levels 77 = .ok (.istore 5, 2) := by decide +kernel
theorem dX7_levels_79 : decode cX7_levels 79 = .ok (.iload 5, 2) := by decide +kernel
theorem dX7_levels_81 : decode cX7_levels 81 = .ok (.aload_n 0, 1) := by decide +kernel
theorem dX7_levels_82 : decode cX7_levels 82 = .ok (.iload_n 3, 1) := by decide +kernel
theorem dX7_levels_83 : decode cX7_levels 83 = .ok (.invokevirtual 240, 3) := by decide +kernel
theorem dX7_levels_86 : decode cX7_levels 86 = .ok (.if_icmp .ge 70, 3) := by decide +kernel
theorem dX7_levels_89 : decode cX7_levels 89 = .ok (.iload 4, 2) := by decide +kernel
theorem dX7_levels_91 : decode cX7_levels 91 = .ok (.ifCond .lt 65, 3) := by decide +kernel
theorem dX7_levels_94 : decode cX7_levels 94 = .ok (.aload_n 0, 1) := by decide +kernel
theorem dX7_levels_95 : decode cX7_levels 95 = .ok (.getfield 40, 3) := by decide +kernel
theorem dX7_levels_98 : decode cX7_levels 98 = .ok (.bipush 60, 2) := by decide +kernel
theorem dX7_load_0 : decode cX7_load 0 = .ok (.aload_n 0, 1) := by decide +kernel
theorem dX7_load_1 : decode cX7_load 1 = .ok (.iload_n 1, 1) := by decide +kernel
theorem dX7_load_10 : decode cX7_load 10 = .ok (.invokevirtual 271, 3) := by decide +kernel
theorem dX7_load_13 : decode cX7_load 13 = .ok (.iconst 3, 1) := by decide +kernel
theorem dX7_load_14 : decode cX7_load 14 = .ok (.if_icmp .ne 12, 3) := by decide +kernel
theorem dX7_load_17 : decode cX7_load 17 = .ok (.iload_n 2, 1) := by decide +kernel
theorem dX7_load_18 : decode cX7_load 18 = .ok (.ifCond .lt 8, 3) := by decide +kernel
theorem dX7_load_2 : decode cX7_load 2 = .ok (.invokevirtual 301, 3) := by decide +kernel
theorem dX7_load_21 : decode cX7_load 21 = .ok (.iload_n 2, 1) := by decide +kernel
theorem dX7_load_22 : decode cX7_load 22 = .ok (.iconst 2, 1) := by decide +kernel
theorem dX7_load_23 : decode cX7_load 23 = .ok (.if_icmp .le 5, 3) := by decide +kernel
theorem dX7_load_26 : decode cX7_load 26 = .ok (.iconst 0, 1) := by decide +kernel
theorem dX7_load_27 : decode cX7_load 27 = .ok (.ireturn, 1) := by decide +kernel
theorem dX7_load_28 : decode cX7_load 28 = .ok (.aload_n 0, 1) := by decide +kernel
theorem dX7_load_29 : decode cX7_load 29 = .ok (.getfield 71, 3) := by decide +kernel
theorem dX7_load_32 : decode cX7_load 32 = .ok (.iload_n 1, 1) := by decide +kernel
theorem dX7_load_33 : decode cX7_load 33 = .ok (.iload_n 2, 1) := by decide +kernel
theorem dX7_load_34 : decode cX7_load 34 = .ok (.iastore, 1) := by decide +kernel
theorem dX7_load_35 : decode cX7_load 35 = .ok (.aload_n 0, 1) := by decide +kernel
theorem dX7_load_36 : decode cX7_load 36 = .ok (.invokevirtual 274, 3) := by decide +kernel
theorem dX7_load_39 : decode cX7_load 39 = .ok (.iconst 1, 1) := by decide +kernel
theorem dX7_load_40 : decode cX7_load 40 = .ok (.ireturn, 1) := by decide +kernel
theorem dX7_load_5 : decode cX7_load 5 = .ok (.ifCond .eq 21, 3) := by decide +kernel
theorem dX7_load_8 : decode cX7_load 8 = .ok (.aload_n 0, 1) := by decide +kernel
theorem dX7_load_9 : decode cX7_load 9 = .ok (.iload_n 1, 1) := by decide +kernel
theorem dX7_looks_0 : decode cX7_looks 0 = .ok (.iconst 0, 1) := by decide +kernel
theorem dX7_looks_1 : decode cX7_looks 1 = .ok (.istore_n 1, 1) := by decide +kernel
theorem dX7_looks_101 : decode cX7_looks 101 = .ok (.iinc 2 1, 3) := by decide +kernel
theorem dX7_looks_104 : decode cX7_looks 104 = .ok (.goto (-100), 3) := by decide +kernel
theorem dX7_looks_107 : decode cX7_looks 107 = .ok (.iconst 0, 1) := by decide +kernel
theorem dX7_looks_108 : decode cX7_looks 108 = .ok (.istore_n 2, 1) := by decide +kernel
theorem dX7_looks_109 : decode cX7_looks 109 = .ok (.iload_n 2, 1) := by decide +kernel
theorem dX7_looks_110 : decode cX7_looks 110 = .ok (.aload_n 0, 1) := by decide +kernel
theorem dX7_looks_111 : decode cX7_looks 111 = .ok (.getfield 261, 3) := by decide +kernel
theorem dX7_looks_114 : decode cX7_looks 114 = .ok (.if_icmp .ge 120, 3) := by decide +kernel
theorem dX7_looks_117 : decode cX7_looks 117 = .ok (.aload_n 0, 1) := by decide +kernel
theorem dX7_looks_118 : decode cX7_looks 118 = .ok (.iload_n 2, 1) := by decide +kernel
theorem dX7_looks_119 : decode cX7_looks 119 = .ok (.invokevirtual 271, 3) := by decide +kernel
theorem dX7_looks_12 : decode cX7_looks 12 = .ok (.iconst 0, 1) := by decide +kernel
theorem dX7_looks_122 : decode cX7_looks 122 = .ok (.iconst 2, 1) := by decide +kernel
theorem dX7_looks_123 : decode cX7_looks 123 = .ok (.if_icmp .ne 105, 3) := by decide +kernel
theorem dX7_looks_126 : decode cX7_looks 126 = .ok (.aload_n 0, 1) := by decide +kernel
theorem dX7_looks_127 : decode cX7_looks 127 = .ok (.iload_n 2, 1) := by decide +kernel
theorem dX7_looks_128 : decode cX7_looks 128 = .ok (.invokevirtual 325, 3) := by decide +kernel
theorem dX7_looks_13 : decode cX7_looks 13 = .ok (.istore_n 3, 1) := by decide +kernel
theorem dX7_looks_131 : decode cX7_looks 131 = .ok (.ifCond .ne 6, 3) := by decide +kernel
theorem dX7_looks_134 : decode cX7_looks 134 = .ok (.goto 94, 3) := by decide +kernel
theorem dX7_looks_137 : decode cX7_looks 137 = .ok (.aload_n 0, 1) := by decide +kernel
theorem dX7_looks_138 : decode cX7_looks 138 = .ok (.iload_n 2, 1) := by decide +kernel
theorem dX7_looks_139 : decode cX7_looks 139 = .ok (.aload_n 0, 1) := by decide +kernel
theorem dX7_looks_14 : decode cX7_looks 14 = .ok (.iload_n 3, 1) := by decide +kernel
theorem dX7_looks_140 : decode cX7_looks 140 = .ok (.getfield 89, 3) := by decide +kernel
theorem dX7_looks_143 : decode cX7_looks 143 = .ok (.invokevirtual 284, 3) := by decide +kernel
theorem dX7_looks_146 : decode cX7_looks 146 = .ok (.istore_n 3, 1) := by decide +kernel
theorem dX7_looks_147 : decode cX7_looks 147 = .ok (.iload_n 3, 1) := by decide +kernel
theorem dX7_looks_148 : decode cX7_looks 148 = .ok (.aload_n 0, 1) := by decide +kernel
theorem dX7_looks_149 : decode cX7_looks 149 = .ok (.getfield 92, 3) := by decide +kernel
theorem dX7_looks_15 : decode cX7_looks 15 = .ok (.aload_n 0, 1) := by decide +kernel
theorem dX7_looks_152 : decode cX7_looks 152 = .ok (.iload_n 2, 1) := by decide +kernel
theorem dX7_looks_153 : decode cX7_looks 153 = .ok (.iaload, 1) := by decide +kernel
theorem dX7_looks_154 : decode cX7_looks 154 = .ok (.if_icmp .ne 6, 3) := by decide +kernel
theorem dX7_looks_157 : decode cX7_looks 157 = .ok (.goto 71, 3) := by decide +kernel
theorem dX7_looks_16 : decode cX7_looks 16 = .ok (.getfield 261, 3) := by decide +kernel
theorem dX7_looks_160 : decode cX7_looks 160 = .ok (.aload_n 0, 1) := by decide +kernel
theorem dX7_looks_161 : decode cX7_looks 161 = .ok (.getfield 92, 3) := by decide +kernel
theorem dX7_looks_164 : decode cX7_looks 164 = .ok (.iload_n 2, 1) := by decide +kernel
theorem dX7_looks_165 : decode cX7_looks 165 = .ok (.iload_n 3, 1) := by decide +kernel
theorem dX7_looks_166 : decode cX7_looks 166 = .ok (.iastore, 1) := by decide +kernel
theorem dX7_looks_167 : decode cX7_looks 167 = .ok (.bipush 10, 2) := by decide +kernel
theorem dX7_looks_169 : decode cX7_looks 169 = .ok (.iload_n 2, 1) := by decide +kernel
theorem dX7_looks_170 : decode cX7_looks 170 = .ok (.imul, 1) := by decide +kernel
theorem dX7_looks_171 : decode cX7_looks 171 = .ok (.aload_n 0, 1) := by decide +kernel
theorem dX7_looks_172 : decode cX7_looks 172 = .ok (.getfield 316, 3) := by decide +kernel
theorem dX7_looks_175 : decode cX7_looks 175 = .ok (.aload_n 0, 1) := by decide +kernel
theorem dX7_looks_176 : decode cX7_looks 176 = .ok (.getfield 34, 3) := by decide +kernel
theorem dX7_looks_179 : decode cX7_looks 179 = .ok (.bipush 60, 2) := by decide +kernel
theorem dX7_looks_181 : decode cX7_looks 181 = .ok (.aload_n 0, 1) := by decide +kernel
theorem dX7_looks_182 : decode cX7_looks 182 = .ok (.getfield 188, 3) := by decide +kernel
theorem dX7_looks_185 : decode cX7_looks 185 = .ok (.imul, 1) := by decide +kernel
theorem dX7_looks_186 : decode cX7_looks 186 = .ok (.iload_n 2, 1) := by decide +kernel
theorem dX7_looks_187 : decode cX7_looks 187 = .ok (.iadd, 1) := by decide +kernel
theorem dX7_looks_188 : decode cX7_looks 188 = .ok (.iaload, 1) := by decide +kernel
theorem dX7_looks_189 : decode cX7_looks 189 = .ok (.iadd, 1) := by decide +kernel
theorem dX7_looks_19 : decode cX7_looks 19 = .ok (.if_icmp .ge 82, 3) := by decide +kernel
theorem dX7_looks_190 : decode cX7_looks 190 = .ok (.bipush 10, 2) := by decide +kernel
theorem dX7_looks_192 : decode cX7_looks 192 = .ok (.irem, 1) := by decide +kernel
theorem dX7_looks_193 : decode cX7_looks 193 = .ok (.iadd, 1) := by decide +kernel
theorem dX7_looks_194 : decode cX7_looks 194 = .ok (.istore 4, 2) := by decide +kernel
theorem dX7_looks_196 : decode cX7_looks 196 = .ok (.aload_n 0, 1) := by decide +kernel
theorem dX7_looks_197 : decode cX7_looks 197 = .ok (.dup, 1) := by decide +kernel
theorem dX7_looks_198 : decode cX7_looks 198 = .ok (.getfield 319, 3) := by decide +kernel
theorem dX7_looks_2 : decode cX7_looks 2 = .ok (.iconst 0, 1) := by decide +kernel
theorem dX7_looks_201 : decode cX7_looks 201 = .ok (.aload_n 0, 1) := by decide +kernel
theorem dX7_looks_202 : decode cX7_looks 202 = .ok (.getfield 95, 3) := by decide +kernel
theorem dX7_looks_205 : decode cX7_looks 205 = .ok (.iload 4, 2) := by decide +kernel
theorem dX7_looks_207 : decode cX7_looks 207 = .ok (.iaload, 1) := by decide +kernel
theorem dX7_looks_208 : decode cX7_looks 208 = .ok (.ifCond .ge 7, 3) := by decide +kernel
theorem dX7_looks_211 : decode cX7_looks 211 = .ok (.iconst 1, 1) := by decide +kernel
theorem dX7_looks_212 : decode cX7_looks 212 = .ok (.goto 4, 3) := by decide +kernel
theorem dX7_looks_215 : decode cX7_looks 215 = .ok (.iconst 0, 1) := by decide +kernel
theorem dX7_looks_216 : decode cX7_looks 216 = .ok (.iadd, 1) := by decide +kernel
theorem dX7_looks_217 : decode cX7_looks 217 = .ok (.putfield 319, 3) := by decide +kernel
theorem dX7_looks_22 : decode cX7_looks 22 = .ok (.aload_n 0, 1) := by decide +kernel
theorem dX7_looks_220 : decode cX7_looks 220 = .ok (.aload_n 0, 1) := by decide +kernel
theorem dX7_looks_221 : decode cX7_looks 221 = .ok (.getfield 95, 3) := by decide +kernel
theorem dX7_looks_224 : decode cX7_looks 224 = .ok (.iload 4, 2) := by decide +kernel
theorem dX7_looks_226 : decode cX7_looks 226 = .ok (.iload_n 3, 1) := by decide +kernel
theorem dX7_looks_227 : decode cX7_looks 227 = .ok (.iastore, 1) := by decide +kernel
theorem dX7_looks_228 : decode cX7_looks 228 = .ok (.iinc 2 1, 3) := by decide +kernel
theorem dX7_looks_23 : decode cX7_looks 23 = .ok (.getfield 40, 3) := by decide +kernel
theorem dX7_looks_231 : decode cX7_looks 231 = .ok (.goto (-122), 3) := by decide +kernel
theorem dX7_looks_234 : decode cX7_looks 234 = .ok (.iconst 0, 1) := by decide +kernel
theorem dX7_looks_235 : decode cX7_looks 235 = .ok (.istore_n 2, 1) := by decide +kernel
theorem dX7_looks_236 : decode cX7_looks 236 = .ok (.iload_n 2, 1) := by decide +kernel
theorem dX7_looks_237 : decode cX7_looks 237 = .ok (.aload_n 0, 1) := by decide +kernel
theorem dX7_looks_238 : decode cX7_looks 238 = .ok (.getfield 261, 3) := by decide +kernel
theorem dX7_looks_241 : decode cX7_looks 241 = .ok (.if_icmp .ge 16, 3) := by decide +kernel
theorem dX7_looks_244 : decode cX7_looks 244 = .ok (.aload_n 0, 1) := by decide +kernel
theorem dX7_looks_245 : decode cX7_looks 245 = .ok (.getfield 104, 3) := by decide +kernel
theorem dX7_looks_248 : decode cX7_looks 248 = .ok (.iload_n 2, 1) := by decide +kernel
theorem dX7_looks_249 : decode cX7_looks 249 = .ok (.iconst 0, 1) := by decide +kernel
theorem dX7_looks_250 : decode cX7_looks 250 = .ok (.bastore, 1) := by decide +kernel
theorem dX7_looks_251 : decode cX7_looks 251 = .ok (.iinc 2 1, 3) := by decide +kernel
theorem dX7_looks_254 : decode cX7_looks 254 = .ok (.goto (-18), 3) := by decide +kernel
theorem dX7_looks_257 : decode cX7_looks 257 = .ok (.iload_n 1, 1) := by decide +kernel
theorem dX7_looks_258 : decode cX7_looks 258 = .ok (.ireturn, 1) := by decide +kernel
theorem dX7_looks_26 : decode cX7_looks 26 = .ok (.bipush 60, 2) := by decide +kernel
theorem dX7_looks_28 : decode cX7_looks 28 = .ok (.aload_n 0, 1) := by decide +kernel
theorem dX7_looks_29 : decode cX7_looks 29 = .ok (.getfield 188, 3) := by decide +kernel
theorem dX7_looks_3 : decode cX7_looks 3 = .ok (.istore_n 2, 1) := by decide +kernel
theorem dX7_looks_32 : decode cX7_looks 32 = .ok (.imul, 1) := by decide +kernel
theorem dX7_looks_33 : decode cX7_looks 33 = .ok (.iload_n 3, 1) := by decide +kernel
theorem dX7_looks_34 : decode cX7_looks 34 = .ok (.iadd, 1) := by decide +kernel
theorem dX7_looks_35 : decode cX7_looks 35 = .ok (.iaload, 1) := by decide +kernel
theorem dX7_looks_36 : decode cX7_looks 36 = .ok (.iload_n 2, 1) := by decide +kernel
theorem dX7_looks_37 : decode cX7_looks 37 = .ok (.if_icmp .ne 58, 3) := by decide +kernel
theorem dX7_looks_4 : decode cX7_looks 4 = .ok (.iload_n 2, 1) := by decide +kernel
theorem dX7_looks_40 : decode cX7_looks 40 = .ok (.aload_n 0, 1) := by decide +kernel
theorem dX7_looks_41 : decode cX7_looks 41 = .ok (.iload_n 3, 1) := by decide +kernel
theorem dX7_looks_42 : decode cX7_looks 42 = .ok (.invokevirtual 271, 3) := by decide +kernel
theorem dX7_looks_45 : decode cX7_looks 45 = .ok (.iconst 1, 1) := by decide +kernel
theorem dX7_looks_46 : decode cX7_looks 46 = .ok (.if_icmp .eq 6, 3) := by decide +kernel
theorem dX7_looks_49 : decode cX7_looks 49 = .ok (.goto 46, 3) := by decide +kernel
theorem dX7_looks_5 : decode cX7_looks 5 = .ok (.aload_n 0, 1) := by decide +kernel
theorem dX7_looks_52 : decode cX7_looks 52 = .ok (.aload_n 0, 1) := by decide +kernel
theorem dX7_looks_53 : decode cX7_looks 53 = .ok (.iload_n 3, 1) := by decide +kernel
theorem dX7_looks_54 : decode cX7_looks 54 = .ok (.aload_n 0, 1) := by decide +kernel
theorem dX7_looks_55 : decode cX7_looks 55 = .ok (.getfield 89, 3) := by decide +kernel
theorem dX7_looks_58 : decode cX7_looks 58 = .ok (.invokevirtual 288, 3) := by decide +kernel
theorem dX7_looks_6 : decode cX7_looks 6 = .ok (.getfield 261, 3) := by decide +kernel
theorem dX7_looks_61 : decode cX7_looks 61 = .ok (.istore 4, 2) := by decide +kernel
theorem dX7_looks_63 : decode cX7_looks 63 = .ok (.iload 4, 2) := by decide +kernel
theorem dX7_looks_65 : decode cX7_looks 65 = .ok (.aload_n 0, 1) := by decide +kernel
theorem dX7_looks_66 : decode cX7_looks 66 = .ok (.getfield 89, 3) := by decide +kernel
theorem dX7_looks_69 : decode cX7_looks 69 = .ok (.iload_n 3, 1) := by decide +kernel
theorem dX7_looks_70 : decode cX7_looks 70 = .ok (.iaload, 1) := by decide +kernel
theorem dX7_looks_71 : decode cX7_looks 71 = .ok (.if_icmp .eq 24, 3) := by decide +kernel
theorem dX7_looks_74 : decode cX7_looks 74 = .ok (.aload_n 0, 1) := by decide +kernel
theorem dX7_looks_75 : decode cX7_looks 75 = .ok (.iload_n 3, 1) := by decide +kernel
theorem dX7_looks_76 : decode cX7_looks 76 = .ok (.invokevirtual 325, 3) := by decide +kernel
theorem dX7_looks_79 : decode cX7_looks 79 = .ok (.ifCond .ne 6, 3) := by decide +kernel
theorem dX7_looks_82 : decode cX7_looks 82 = .ok (.goto 13, 3) := by decide +kernel
theorem dX7_looks_85 : decode cX7_looks 85 = .ok (.aload_n 0, 1) := by decide +kernel
theorem dX7_looks_86 : decode cX7_looks 86 = .ok (.iload_n 3, 1) := by decide +kernel
theorem dX7_looks_87 : decode cX7_looks 87 = .ok (.iload 4, 2) := by decide +kernel
theorem dX7_looks_89 : decode cX7_looks 89 = .ok (.invokevirtual 322, 3) := by decide +kernel
theorem dX7_looks_9 : decode cX7_looks 9 = .ok (.if_icmp .gt 98, 3) := by decide +kernel
theorem dX7_looks_92 : decode cX7_looks 92 = .ok (.iinc 1 1, 3) := by decide +kernel
theorem dX7_looks_95 : decode cX7_looks 95 = .ok (.iinc 3 1, 3) := by decide +kernel
theorem dX7_looks_98 : decode cX7_looks 98 = .ok (.goto (-84), 3) := by decide +kernel
theorem dX7_mostOf_0 : decode cX7_mostOf 0 = .ok (.iload_n 0, 1) := by decide +kernel
theorem dX7_mostOf_1 : decode cX7_mostOf 1 = .ok (.bipush 6, 2) := by decide +kernel
theorem dX7_mostOf_12 : decode cX7_mostOf 12 = .ok (.iconst 1, 1) := by decide +kernel
theorem dX7_mostOf_13 : decode cX7_mostOf 13 = .ok (.goto 15, 3) := by decide +kernel
theorem dX7_mostOf_16 : decode cX7_mostOf 16 = .ok (.iload_n 0, 1) := by decide +kernel
theorem dX7_mostOf_17 : decode cX7_mostOf 17 = .ok (.bipush 8, 2) := by decide +kernel
theorem dX7_mostOf_19 : decode cX7_mostOf 19 = .ok (.if_icmp .ne 7, 3) := by decide +kernel
theorem dX7_mostOf_22 : decode cX7_mostOf 22 = .ok (.iconst 3, 1) := by decide +kernel
theorem dX7_mostOf_23 : decode cX7_mostOf 23 = .ok (.goto 5, 3) := by decide +kernel
theorem dX7_mostOf_26 : decode cX7_mostOf 26 = .ok (.bipush 6, 2) := by decide +kernel
theorem dX7_mostOf_28 : decode cX7_mostOf 28 = .ok (.ireturn, 1) := by decide +kernel
theorem dX7_mostOf_3 : decode cX7_mostOf 3 = .ok (.if_icmp .eq 9, 3) := by decide +kernel
theorem dX7_mostOf_6 : decode cX7_mostOf 6 = .ok (.iload_n 0, 1) := by decide +kernel
theorem dX7_mostOf_7 : decode cX7_mostOf 7 = .ok (.bipush 7, 2) := by decide +kernel
theorem dX7_mostOf_9 : decode cX7_mostOf 9 = .ok (.if_icmp .ne 7, 3) := by decide +kernel
theorem dX7_must_0 : decode cX7_must 0 = .ok (.aload_n 0, 1) := by decide +kernel
theorem dX7_must_1 : decode cX7_must 1 = .ok (.iload_n 1, 1) := by decide +kernel
theorem dX7_must_12 : decode cX7_must 12 = .ok (.goto 7, 3) := by decide +kernel
theorem dX7_must_15 : decode cX7_must 15 = .ok (.aload_n 0, 1) := by decide +kernel
theorem dX7_must_16 : decode cX7_must 16 = .ok (.invokevirtual 182, 3) := by decide +kernel
theorem dX7_must_19 : decode cX7_must 19 = .ok (.return_, 1) := by decide +kernel
theorem dX7_must_2 : decode cX7_must 2 = .ok (.invokevirtual 176, 3) := by decide +kernel
theorem dX7_must_5 : decode cX7_must 5 = .ok (.ifCond .eq 10, 3) := by decide +kernel
theorem dX7_must_8 : decode cX7_must 8 = .ok (.aload_n 0, 1) := by decide +kernel
theorem dX7_must_9 : decode cX7_must 9 = .ok (.invokevirtual 179, 3) := by decide +kernel
theorem dX7_named_0 : decode cX7_named 0 = .ok (.lload_n 1, 1) := by decide +kernel
theorem dX7_named_1 : decode cX7_named 1 = .ok (.invokestatic 297, 3) := by decide +kernel
theorem dX7_named_10 : decode cX7_named 10 = .ok (.aload_n 0, 1) := by decide +kernel
theorem dX7_named_11 : decode cX7_named 11 = .ok (.getfield 261, 3) := by decide +kernel
theorem dX7_named_14 : decode cX7_named 14 = .ok (.if_icmp .ge 32, 3) := by decide +kernel
theorem dX7_named_17 : decode cX7_named 17 = .ok (.aload_n 0, 1) := by decide +kernel
theorem dX7_named_18 : decode cX7_named 18 = .ok (.getfield 20, 3) := by decide +kernel
theorem dX7_named_21 : decode cX7_named 21 = .ok (.bipush 60, 2) := by decide +kernel
theorem dX7_named_23 : decode cX7_named 23 = .ok (.aload_n 0, 1) := by decide +kernel
theorem dX7_named_24 : decode cX7_named 24 = .ok (.getfield 188, 3) := by decide +kernel
theorem dX7_named_27 : decode cX7_named 27 = .ok (.imul, 1) := by decide +kernel
theorem dX7_named_28 : decode cX7_named 28 = .ok (.iload 5, 2) := by decide +kernel
theorem dX7_named_30 : decode cX7_named 30 = .ok (.iadd, 1) := by decide +kernel
theorem dX7_named_31 : decode cX7_named 31 = .ok (.laload, 1) := by decide +kernel
theorem dX7_named_32 : decode cX7_named 32 = .ok (.lload_n 3, 1) := by decide +kernel
theorem dX7_named_33 : decode cX7_named 33 = .ok (.lcmp, 1) := by decide +kernel
theorem dX7_named_34 : decode cX7_named 34 = .ok (.ifCond .ne 6, 3) := by decide +kernel
theorem dX7_named_37 : decode cX7_named 37 = .ok (.iload 5, 2) := by decide +kernel
theorem dX7_named_39 : decode cX7_named 39 = .ok (.ireturn, 1) := by decide +kernel
theorem dX7_named_4 : decode cX7_named 4 = .ok (.lstore_n 3, 1) := by decide +kernel
theorem dX7_named_40 : decode cX7_named 40 = .ok (.iinc 5 1, 3) := by decide +kernel
theorem dX7_named_43 : decode cX7_named 43 = .ok (.goto (-35), 3) := by decide +kernel
theorem dX7_named_46 : decode cX7_named 46 = .ok (.iconst (-1), 1) := by decide +kernel
theorem dX7_named_47 : decode cX7_named 47 = .ok (.ireturn, 1) := by decide +kernel
theorem dX7_named_5 : decode cX7_named 5 = .ok (.iconst 0, 1) := by decide +kernel
theorem dX7_named_6 : decode cX7_named 6 = .ok (.istore 5, 2) := by decide +kernel
theorem dX7_named_8 : decode cX7_named 8 = .ok (.iload 5, 2) := by decide +kernel
theorem dX7_newOf_0 : decode cX7_newOf 0 = .ok (.iconst 0, 1) := by decide +kernel
theorem dX7_newOf_1 : decode cX7_newOf 1 = .ok (.istore_n 3, 1) := by decide +kernel
theorem dX7_newOf_10 : decode cX7_newOf 10 = .ok (.aload_n 0, 1) := by decide +kernel
theorem dX7_newOf_11 : decode cX7_newOf 11 = .ok (.getfield 20, 3) := by decide +kernel
theorem dX7_newOf_14 : decode cX7_newOf 14 = .ok (.bipush 60, 2) := by decide +kernel
theorem dX7_newOf_16 : decode cX7_newOf 16 = .ok (.aload_n 0, 1) := by decide +kernel
theorem dX7_newOf_17 : decode cX7_newOf 17 = .ok (.getfield 188, 3) := by decide +kernel
theorem dX7_newOf_2 : decode cX7_newOf 2 = .ok (.iload_n 3, 1) := by decide +kernel
theorem dX7_newOf_20 : decode cX7_newOf 20 = .ok (.imul, 1) := by decide +kernel
theorem dX7_newOf_21 : decode cX7_newOf 21 = .ok (.iload_n 3, 1) := by decide +kernel
theorem dX7_newOf_22 : decode cX7_newOf 22 = .ok (.iadd, 1) := by decide +kernel
theorem dX7_newOf_23 : decode cX7_newOf 23 = .ok (.laload, 1) := by decide +kernel
theorem dX7_newOf_24 : decode cX7_newOf 24 = .ok (.lload_n 1, 1) := by decide +kernel
theorem dX7_newOf_25 : decode cX7_newOf 25 = .ok (.lcmp, 1) := by decide +kernel
theorem dX7_newOf_26 : decode cX7_newOf 26 = .ok (.ifCond .ne 5, 3) := by decide +kernel
theorem dX7_newOf_29 : decode cX7_newOf 29 = .ok (.iload_n 3, 1) := by decide +kernel
theorem dX7_newOf_3 : decode cX7_newOf 3 = .ok (.aload_n 0, 1) := by decide +kernel
theorem dX7_newOf_30 : decode cX7_newOf 30 = .ok (.ireturn, 1) := by decide +kernel
theorem dX7_newOf_31 : decode cX7_newOf 31 = .ok (.iinc 3 1, 3) := by decide +kernel
theorem dX7_newOf_34 : decode cX7_newOf 34 = .ok (.goto (-32), 3) := by decide +kernel
theorem dX7_newOf_37 : decode cX7_newOf 37 = .ok (.iconst (-1), 1) := by decide +kernel
theorem dX7_newOf_38 : decode cX7_newOf 38 = .ok (.ireturn, 1) := by decide +kernel
theorem dX7_newOf_4 : decode cX7_newOf 4 = .ok (.getfield 185, 3) := by decide +kernel
theorem dX7_newOf_7 : decode cX7_newOf 7 = .ok (.if_icmp .ge 30, 3) := by decide +kernel
theorem dX7_next_0 : decode cX7_next 0 = .ok (.aload_n 0, 1) := by decide +kernel
theorem dX7_next_1 : decode cX7_next 1 = .ok (.aload_n 0, 1) := by decide +kernel
theorem dX7_next_101 : decode cX7_next 101 = .ok (.aload_n 0, 1) := by decide +kernel
theorem dX7_next_102 : decode cX7_next 102 = .ok (.aload_n 0, 1) := by decide +kernel
theorem dX7_next_103 : decode cX7_next 103 = .ok (.getfield 107, 3) := by decide +kernel
theorem dX7_next_106 : decode cX7_next 106 = .ok (.putfield 131, 3) := by decide +kernel
theorem dX7_next_109 : decode cX7_next 109 = .ok (.goto 315, 3) := by decide +kernel
theorem dX7_next_112 : decode cX7_next 112 = .ok (.iload_n 1, 1) := by decide +kernel
theorem dX7_next_113 : decode cX7_next 113 = .ok (.invokestatic 144, 3) := by decide +kernel
theorem dX7_next_116 : decode cX7_next 116 = .ok (.ifCond .eq 202, 3) := by decide +kernel
theorem dX7_next_119 : decode cX7_next 119 = .ok (.aload_n 0, 1) := by decide +kernel
theorem dX7_next_12 : decode cX7_next 12 = .ok (.aload_n 0, 1) := by decide +kernel
theorem dX7_next_120 : decode cX7_next 120 = .ok (.aload_n 0, 1) := by decide +kernel
theorem dX7_next_121 : decode cX7_next 121 = .ok (.getfield 131, 3) := by decide +kernel
theorem dX7_next_124 : decode cX7_next 124 = .ok (.invokevirtual 137, 3) := by decide +kernel
theorem dX7_next_127 : decode cX7_next 127 = .ok (.invokestatic 144, 3) := by decide +kernel
theorem dX7_next_13 : decode cX7_next 13 = .ok (.getfield 107, 3) := by decide +kernel
theorem dX7_next_130 : decode cX7_next 130 = .ok (.ifCond .ne 17, 3) := by decide +kernel
theorem dX7_next_133 : decode cX7_next 133 = .ok (.aload_n 0, 1) := by decide +kernel
theorem dX7_next_134 : decode cX7_next 134 = .ok (.aload_n 0, 1) := by decide +kernel
theorem dX7_next_135 : decode cX7_next 135 = .ok (.getfield 131, 3) := by decide +kernel
theorem dX7_next_138 : decode cX7_next 138 = .ok (.invokevirtual 137, 3) := by decide +kernel
theorem dX7_next_141 : decode cX7_next 141 = .ok (.invokestatic 148, 3) := by decide +kernel
theorem dX7_next_144 : decode cX7_next 144 = .ok (.ifCond .eq 16, 3) := by decide +kernel
theorem dX7_next_147 : decode cX7_next 147 = .ok (.aload_n 0, 1) := by decide +kernel
theorem dX7_next_148 : decode cX7_next 148 = .ok (.dup, 1) := by decide +kernel
theorem dX7_next_149 : decode cX7_next 149 = .ok (.getfield 131, 3) := by decide +kernel
theorem dX7_next_152 : decode cX7_next 152 = .ok (.iconst 1, 1) := by decide +kernel
theorem dX7_next_153 : decode cX7_next 153 = .ok (.iadd, 1) := by decide +kernel
theorem dX7_next_154 : decode cX7_next 154 = .ok (.putfield 131, 3) := by decide +kernel
theorem dX7_next_157 : decode cX7_next 157 = .ok (.goto (-38), 3) := by decide +kernel
theorem dX7_next_16 : decode cX7_next 16 = .ok (.if_icmp .ge 42, 3) := by decide +kernel
theorem dX7_next_160 : decode cX7_next 160 = .ok (.aload_n 0, 1) := by decide +kernel
theorem dX7_next_161 : decode cX7_next 161 = .ok (.lconst 0, 1) := by decide +kernel
theorem dX7_next_162 : decode cX7_next 162 = .ok (.putfield 151, 3) := by decide +kernel
theorem dX7_next_165 : decode cX7_next 165 = .ok (.aload_n 0, 1) := by decide +kernel
theorem dX7_next_166 : decode cX7_next 166 = .ok (.getfield 134, 3) := by decide +kernel
theorem dX7_next_169 : decode cX7_next 169 = .ok (.istore_n 2, 1) := by decide +kernel
theorem dX7_next_170 : decode cX7_next 170 = .ok (.iload_n 2, 1) := by decide +kernel
theorem dX7_next_171 : decode cX7_next 171 = .ok (.aload_n 0, 1) := by decide +kernel
theorem dX7_next_172 : decode cX7_next 172 = .ok (.getfield 131, 3) := by decide +kernel
theorem dX7_next_175 : decode cX7_next 175 = .ok (.if_icmp .ge 38, 3) := by decide +kernel
theorem dX7_next_178 : decode cX7_next 178 = .ok (.iload_n 2, 1) := by decide +kernel
theorem dX7_next_179 : decode cX7_next 179 = .ok (.aload_n 0, 1) := by decide +kernel
theorem dX7_next_180 : decode cX7_next 180 = .ok (.getfield 134, 3) := by decide +kernel
theorem dX7_next_183 : decode cX7_next 183 = .ok (.bipush 8, 2) := by decide +kernel
theorem dX7_next_185 : decode cX7_next 185 = .ok (.iadd, 1) := by decide +kernel
theorem dX7_next_186 : decode cX7_next 186 = .ok (.if_icmp .ge 27, 3) := by decide +kernel
theorem dX7_next_189 : decode cX7_next 189 = .ok (.aload_n 0, 1) := by decide +kernel
theorem dX7_next_19 : decode cX7_next 19 = .ok (.aload_n 0, 1) := by decide +kernel
theorem dX7_next_190 : decode cX7_next 190 = .ok (.aload_n 0, 1) := by decide +kernel
theorem dX7_next_191 : decode cX7_next 191 = .ok (.getfield 151, 3) := by decide +kernel
theorem dX7_next_194 : decode cX7_next 194 = .ok (.bipush 8, 2) := by decide +kernel
theorem dX7_next_196 : decode cX7_next 196 = .ok (.lshl, 1) := by decide +kernel
theorem dX7_next_197 : decode cX7_next 197 = .ok (.aload_n 0, 1) := by decide +kernel
theorem dX7_next_198 : decode cX7_next 198 = .ok (.iload_n 2, 1) := by decide +kernel
theorem dX7_next_199 : decode cX7_next 199 = .ok (.invokevirtual 137, 3) := by decide +kernel
theorem dX7_next_2 : decode cX7_next 2 = .ok (.getfield 131, 3) := by decide +kernel
theorem dX7_next_20 : decode cX7_next 20 = .ok (.aload_n 0, 1) := by decide +kernel
theorem dX7_next_202 : decode cX7_next 202 = .ok (.i2l, 1) := by decide +kernel
theorem dX7_next_203 : decode cX7_next 203 = .ok (.lor, 1) := by decide +kernel
theorem dX7_next_204 : decode cX7_next 204 = .ok (.putfield 151, 3) := by decide +kernel
theorem dX7_next_207 : decode cX7_next 207 = .ok (.iinc 2 1, 3) := by decide +kernel
theorem dX7_next_21 : decode cX7_next 21 = .ok (.getfield 134, 3) := by decide +kernel
theorem dX7_next_210 : decode cX7_next 210 = .ok (.goto (-40), 3) := by decide +kernel
theorem dX7_next_213 : decode cX7_next 213 = .ok (.aload_n 0, 1) := by decide +kernel
theorem dX7_next_214 : decode cX7_next 214 = .ok (.getfield 151, 3) := by decide +kernel
theorem dX7_next_217 : decode cX7_next 217 = .ok (.invokestatic 155, 3) := by decide +kernel
theorem dX7_next_220 : decode cX7_next 220 = .ok (.ifCond .ge 58, 3) := by decide +kernel
theorem dX7_next_223 : decode cX7_next 223 = .ok (.aload_n 0, 1) := by decide +kernel
theorem dX7_next_224 : decode cX7_next 224 = .ok (.getfield 151, 3) := by decide +kernel
theorem dX7_next_227 : decode cX7_next 227 = .ok (.ldc2_w 159, 3) := by decide +kernel
theorem dX7_next_230 : decode cX7_next 230 = .ok (.lcmp, 1) := by decide +kernel
theorem dX7_next_231 : decode cX7_next 231 = .ok (.ifCond .eq 47, 3) := by decide +kernel
theorem dX7_next_234 : decode cX7_next 234 = .ok (.aload_n 0, 1) := by decide +kernel
theorem dX7_next_235 : decode cX7_next 235 = .ok (.getfield 151, 3) := by decide +kernel
theorem dX7_next_238 : decode cX7_next 238 = .ok (.ldc2_w 161, 3) := by decide +kernel
theorem dX7_next_24 : decode cX7_next 24 = .ok (.invokevirtual 137, 3) := by decide +kernel
theorem dX7_next_241 : decode cX7_next 241 = .ok (.lcmp, 1) := by decide +kernel
theorem dX7_next_242 : decode cX7_next 242 = .ok (.ifCond .eq 36, 3) := by decide +kernel
theorem dX7_next_245 : decode cX7_next 245 = .ok (.aload_n 0, 1) := by decide +kernel
theorem dX7_next_246 : decode cX7_next 246 = .ok (.getfield 151, 3) := by decide +kernel
theorem dX7_next_249 : decode cX7_next 249 = .ok (.ldc2_w 163, 3) := by decide +kernel
theorem dX7_next_252 : decode cX7_next 252 = .ok (.lcmp, 1) := by decide +kernel
theorem dX7_next_253 : decode cX7_next 253 = .ok (.ifCond .eq 25, 3) := by decide +kernel
theorem dX7_next_256 : decode cX7_next 256 = .ok (.aload_n 0, 1) := by decide +kernel
theorem dX7_next_257 : decode cX7_next 257 = .ok (.getfield 151, 3) := by decide +kernel
theorem dX7_next_260 : decode cX7_next 260 = .ok (.ldc2_w 165, 3) := by decide +kernel
theorem dX7_next_263 : decode cX7_next 263 = .ok (.lcmp, 1) := by decide +kernel
theorem dX7_next_264 : decode cX7_next 264 = .ok (.ifCond .eq 14, 3) := by decide +kernel
theorem dX7_next_267 : decode cX7_next 267 = .ok (.aload_n 0, 1) := by decide +kernel
theorem dX7_next_268 : decode cX7_next 268 = .ok (.getfield 151, 3) := by decide +kernel
theorem dX7_next_27 : decode cX7_next 27 = .ok (.bipush 32, 2) := by decide +kernel
theorem dX7_next_271 : decode cX7_next 271 = .ok (.ldc2_w 167, 3) := by decide +kernel
theorem dX7_next_274 : decode cX7_next 274 = .ok (.lcmp, 1) := by decide +kernel
theorem dX7_next_275 : decode cX7_next 275 = .ok (.ifCond .ne 7, 3) := by decide +kernel
theorem dX7_next_278 : decode cX7_next 278 = .ok (.iconst 1, 1) := by decide +kernel
theorem dX7_next_279 : decode cX7_next 279 = .ok (.goto 4, 3) := by decide +kernel
theorem dX7_next_282 : decode cX7_next 282 = .ok (.iconst 0, 1) := by decide +kernel
theorem dX7_next_283 : decode cX7_next 283 = .ok (.istore_n 2, 1) := by decide +kernel
theorem dX7_next_284 : decode cX7_next 284 = .ok (.aload_n 0, 1) := by decide +kernel
theorem dX7_next_285 : decode cX7_next 285 = .ok (.aload_n 0, 1) := by decide +kernel
theorem dX7_next_286 : decode cX7_next 286 = .ok (.getfield 131, 3) := by decide +kernel
theorem dX7_next_289 : decode cX7_next 289 = .ok (.aload_n 0, 1) := by decide +kernel
theorem dX7_next_29 : decode cX7_next 29 = .ok (.if_icmp .eq 16, 3) := by decide +kernel
theorem dX7_next_290 : decode cX7_next 290 = .ok (.getfield 134, 3) := by decide +kernel
theorem dX7_next_293 : decode cX7_next 293 = .ok (.isub, 1) := by decide +kernel
theorem dX7_next_294 : decode cX7_next 294 = .ok (.bipush 8, 2) := by decide +kernel
theorem dX7_next_296 : decode cX7_next 296 = .ok (.if_icmp .le 7, 3) := by decide +kernel
theorem dX7_next_299 : decode cX7_next 299 = .ok (.iconst 1, 1) := by decide +kernel
theorem dX7_next_300 : decode cX7_next 300 = .ok (.goto 12, 3) := by decide +kernel
theorem dX7_next_303 : decode cX7_next 303 = .ok (.iload_n 2, 1) := by decide +kernel
theorem dX7_next_304 : decode cX7_next 304 = .ok (.ifCond .eq 7, 3) := by decide +kernel
theorem dX7_next_307 : decode cX7_next 307 = .ok (.iconst 3, 1) := by decide +kernel
theorem dX7_next_308 : decode cX7_next 308 = .ok (.goto 4, 3) := by decide +kernel
theorem dX7_next_311 : decode cX7_next 311 = .ok (.iconst 2, 1) := by decide +kernel
theorem dX7_next_312 : decode cX7_next 312 = .ok (.putfield 141, 3) := by decide +kernel
theorem dX7_next_315 : decode cX7_next 315 = .ok (.goto 109, 3) := by decide +kernel
theorem dX7_next_318 : decode cX7_next 318 = .ok (.iload_n 1, 1) := by decide +kernel
theorem dX7_next_319 : decode cX7_next 319 = .ok (.invokestatic 148, 3) := by decide +kernel
theorem dX7_next_32 : decode cX7_next 32 = .ok (.aload_n 0, 1) := by decide +kernel
theorem dX7_next_322 : decode cX7_next 322 = .ok (.ifCond .eq 57, 3) := by decide +kernel
theorem dX7_next_325 : decode cX7_next 325 = .ok (.aload_n 0, 1) := by decide +kernel
theorem dX7_next_326 : decode cX7_next 326 = .ok (.iload_n 1, 1) := by decide +kernel
theorem dX7_next_327 : decode cX7_next 327 = .ok (.bipush 48, 2) := by decide +kernel
theorem dX7_next_329 : decode cX7_next 329 = .ok (.isub, 1) := by decide +kernel
theorem dX7_next_33 : decode cX7_next 33 = .ok (.aload_n 0, 1) := by decide +kernel
theorem dX7_next_330 : decode cX7_next 330 = .ok (.putfield 169, 3) := by decide +kernel
theorem dX7_next_333 : decode cX7_next 333 = .ok (.aload_n 0, 1) := by decide +kernel
theorem dX7_next_334 : decode cX7_next 334 = .ok (.iload_n 1, 1) := by decide +kernel
theorem dX7_next_335 : decode cX7_next 335 = .ok (.bipush 48, 2) := by decide +kernel
theorem dX7_next_337 : decode cX7_next 337 = .ok (.if_icmp .eq 31, 3) := by decide +kernel
theorem dX7_next_34 : decode cX7_next 34 = .ok (.getfield 134, 3) := by decide +kernel
theorem dX7_next_340 : decode cX7_next 340 = .ok (.aload_n 0, 1) := by decide +kernel
theorem dX7_next_341 : decode cX7_next 341 = .ok (.aload_n 0, 1) := by decide +kernel
theorem dX7_next_342 : decode cX7_next 342 = .ok (.getfield 131, 3) := by decide +kernel
theorem dX7_next_345 : decode cX7_next 345 = .ok (.invokevirtual 137, 3) := by decide +kernel
theorem dX7_next_348 : decode cX7_next 348 = .ok (.invokestatic 144, 3) := by decide +kernel
theorem dX7_next_351 : decode cX7_next 351 = .ok (.ifCond .ne 17, 3) := by decide +kernel
theorem dX7_next_354 : decode cX7_next 354 = .ok (.aload_n 0, 1) := by decide +kernel
theorem dX7_next_355 : decode cX7_next 355 = .ok (.aload_n 0, 1) := by decide +kernel
theorem dX7_next_356 : decode cX7_next 356 = .ok (.getfield 131, 3) := by decide +kernel
theorem dX7_next_359 : decode cX7_next 359 = .ok (.invokevirtual 137, 3) := by decide +kernel
theorem dX7_next_362 : decode cX7_next 362 = .ok (.invokestatic 148, 3) := by decide +kernel
theorem dX7_next_365 : decode cX7_next 365 = .ok (.ifCond .eq 7, 3) := by decide +kernel
theorem dX7_next_368 : decode cX7_next 368 = .ok (.iconst 1, 1) := by decide +kernel
theorem dX7_next_369 : decode cX7_next 369 = .ok (.goto 4, 3) := by decide +kernel
theorem dX7_next_37 : decode cX7_next 37 = .ok (.invokevirtual 137, 3) := by decide +kernel
theorem dX7_next_372 : decode cX7_next 372 = .ok (.iconst 4, 1) := by decide +kernel
theorem dX7_next_373 : decode cX7_next 373 = .ok (.putfield 141, 3) := by decide +kernel
theorem dX7_next_376 : decode cX7_next 376 = .ok (.goto 48, 3) := by decide +kernel
theorem dX7_next_379 : decode cX7_next 379 = .ok (.aload_n 0, 1) := by decide +kernel
theorem dX7_next_380 : decode cX7_next 380 = .ok (.iload_n 1, 1) := by decide +kernel
theorem dX7_next_381 : decode cX7_next 381 = .ok (.bipush 44, 2) := by decide +kernel
theorem dX7_next_383 : decode cX7_next 383 = .ok (.if_icmp .eq 33, 3) := by decide +kernel
theorem dX7_next_386 : decode cX7_next 386 = .ok (.iload_n 1, 1) := by decide +kernel
theorem dX7_next_387 : decode cX7_next 387 = .ok (.bipush 59, 2) := by decide +kernel
theorem dX7_next_389 : decode cX7_next 389 = .ok (.if_icmp .eq 27, 3) := by decide +kernel
theorem dX7_next_392 : decode cX7_next 392 = .ok (.iload_n 1, 1) := by decide +kernel
theorem dX7_next_393 : decode cX7_next 393 = .ok (.bipush 61, 2) := by decide +kernel
theorem dX7_next_395 : decode cX7_next 395 = .ok (.if_icmp .eq 21, 3) := by decide +kernel
theorem dX7_next_398 : decode cX7_next 398 = .ok (.iload_n 1, 1) := by decide +kernel
theorem dX7_next_399 : decode cX7_next 399 = .ok (.bipush 40, 2) := by decide +kernel
theorem dX7_next_40 : decode cX7_next 40 = .ok (.bipush 10, 2) := by decide +kernel
theorem dX7_next_401 : decode cX7_next 401 = .ok (.if_icmp .eq 15, 3) := by decide +kernel
theorem dX7_next_404 : decode cX7_next 404 = .ok (.iload_n 1, 1) := by decide +kernel
theorem dX7_next_405 : decode cX7_next 405 = .ok (.bipush 41, 2) := by decide +kernel
theorem dX7_next_407 : decode cX7_next 407 = .ok (.if_icmp .eq 9, 3) := by decide +kernel
theorem dX7_next_410 : decode cX7_next 410 = .ok (.iload_n 1, 1) := by decide +kernel
theorem dX7_next_411 : decode cX7_next 411 = .ok (.bipush 60, 2) := by decide +kernel
theorem dX7_next_413 : decode cX7_next 413 = .ok (.if_icmp .ne 7, 3) := by decide +kernel
theorem dX7_next_416 : decode cX7_next 416 = .ok (.iconst 5, 1) := by decide +kernel
theorem dX7_next_417 : decode cX7_next 417 = .ok (.goto 4, 3) := by decide +kernel
theorem dX7_next_42 : decode cX7_next 42 = .ok (.if_icmp .ne 16, 3) := by decide +kernel
theorem dX7_next_420 : decode cX7_next 420 = .ok (.iconst 1, 1) := by decide +kernel
theorem dX7_next_421 : decode cX7_next 421 = .ok (.putfield 141, 3) := by decide +kernel
theorem dX7_next_424 : decode cX7_next 424 = .ok (.return_, 1) := by decide +kernel
theorem dX7_next_45 : decode cX7_next 45 = .ok (.aload_n 0, 1) := by decide +kernel
theorem dX7_next_46 : decode cX7_next 46 = .ok (.dup, 1) := by decide +kernel
theorem dX7_next_47 : decode cX7_next 47 = .ok (.getfield 134, 3) := by decide +kernel
theorem dX7_next_5 : decode cX7_next 5 = .ok (.putfield 134, 3) := by decide +kernel
theorem dX7_next_50 : decode cX7_next 50 = .ok (.iconst 1, 1) := by decide +kernel
theorem dX7_next_51 : decode cX7_next 51 = .ok (.iadd, 1) := by decide +kernel
theorem dX7_next_52 : decode cX7_next 52 = .ok (.putfield 134, 3) := by decide +kernel
theorem dX7_next_55 : decode cX7_next 55 = .ok (.goto (-47), 3) := by decide +kernel
theorem dX7_next_58 : decode cX7_next 58 = .ok (.aload_n 0, 1) := by decide +kernel
theorem dX7_next_59 : decode cX7_next 59 = .ok (.aload_n 0, 1) := by decide +kernel
theorem dX7_next_60 : decode cX7_next 60 = .ok (.getfield 134, 3) := by decide +kernel
theorem dX7_next_63 : decode cX7_next 63 = .ok (.invokevirtual 137, 3) := by decide +kernel
theorem dX7_next_66 : decode cX7_next 66 = .ok (.istore_n 1, 1) := by decide +kernel
theorem dX7_next_67 : decode cX7_next 67 = .ok (.aload_n 0, 1) := by decide +kernel
theorem dX7_next_68 : decode cX7_next 68 = .ok (.aload_n 0, 1) := by decide +kernel
theorem dX7_next_69 : decode cX7_next 69 = .ok (.getfield 134, 3) := by decide +kernel
theorem dX7_next_72 : decode cX7_next 72 = .ok (.iconst 1, 1) := by decide +kernel
theorem dX7_next_73 : decode cX7_next 73 = .ok (.iadd, 1) := by decide +kernel
theorem dX7_next_74 : decode cX7_next 74 = .ok (.putfield 131, 3) := by decide +kernel
theorem dX7_next_77 : decode cX7_next 77 = .ok (.aload_n 0, 1) := by decide +kernel
theorem dX7_next_78 : decode cX7_next 78 = .ok (.getfield 134, 3) := by decide +kernel
theorem dX7_next_8 : decode cX7_next 8 = .ok (.aload_n 0, 1) := by decide +kernel
theorem dX7_next_81 : decode cX7_next 81 = .ok (.aload_n 0, 1) := by decide +kernel
theorem dX7_next_82 : decode cX7_next 82 = .ok (.getfield 107, 3) := by decide +kernel
theorem dX7_next_85 : decode cX7_next 85 = .ok (.if_icmp .lt 27, 3) := by decide +kernel
theorem dX7_next_88 : decode cX7_next 88 = .ok (.aload_n 0, 1) := by decide +kernel
theorem dX7_next_89 : decode cX7_next 89 = .ok (.iconst 0, 1) := by decide +kernel
theorem dX7_next_9 : decode cX7_next 9 = .ok (.getfield 134, 3) := by decide +kernel
theorem dX7_next_90 : decode cX7_next 90 = .ok (.putfield 141, 3) := by decide +kernel
theorem dX7_next_93 : decode cX7_next 93 = .ok (.aload_n 0, 1) := by decide +kernel
theorem dX7_next_94 : decode cX7_next 94 = .ok (.aload_n 0, 1) := by decide +kernel
theorem dX7_next_95 : decode cX7_next 95 = .ok (.getfield 107, 3) := by decide +kernel
theorem dX7_next_98 : decode cX7_next 98 = .ok (.putfield 134, 3) := by decide +kernel
theorem dX7_node_0 : decode cX7_node 0 = .ok (.aload_n 0, 1) := by decide +kernel
theorem dX7_node_1 : decode cX7_node 1 = .ok (.iload_n 1, 1) := by decide +kernel
theorem dX7_node_10 : decode cX7_node 10 = .ok (.bipush 60, 2) := by decide +kernel
theorem dX7_node_12 : decode cX7_node 12 = .ok (.aload_n 0, 1) := by decide +kernel
theorem dX7_node_13 : decode cX7_node 13 = .ok (.getfield 188, 3) := by decide +kernel
theorem dX7_node_16 : decode cX7_node 16 = .ok (.imul, 1) := by decide +kernel
theorem dX7_node_17 : decode cX7_node 17 = .ok (.iload_n 1, 1) := by decide +kernel
theorem dX7_node_18 : decode cX7_node 18 = .ok (.iadd, 1) := by decide +kernel
theorem dX7_node_19 : decode cX7_node 19 = .ok (.istore_n 3, 1) := by decide +kernel
theorem dX7_node_2 : decode cX7_node 2 = .ok (.invokevirtual 301, 3) := by decide +kernel
theorem dX7_node_20 : decode cX7_node 20 = .ok (.iload_n 2, 1) := by decide +kernel
theorem dX7_node_21 : decode cX7_node 21 = .ok (.ifCond .ne 12, 3) := by decide +kernel
theorem dX7_node_24 : decode cX7_node 24 = .ok (.aload_n 0, 1) := by decide +kernel
theorem dX7_node_25 : decode cX7_node 25 = .ok (.getfield 24, 3) := by decide +kernel
theorem dX7_node_28 : decode cX7_node 28 = .ok (.iload_n 3, 1) := by decide +kernel
theorem dX7_node_29 : decode cX7_node 29 = .ok (.iaload, 1) := by decide +kernel
theorem dX7_node_30 : decode cX7_node 30 = .ok (.goto 46, 3) := by decide +kernel
theorem dX7_node_33 : decode cX7_node 33 = .ok (.iload_n 2, 1) := by decide +kernel
theorem dX7_node_34 : decode cX7_node 34 = .ok (.iconst 1, 1) := by decide +kernel
theorem dX7_node_35 : decode cX7_node 35 = .ok (.if_icmp .ne 12, 3) := by decide +kernel
theorem dX7_node_38 : decode cX7_node 38 = .ok (.aload_n 0, 1) := by decide +kernel
theorem dX7_node_39 : decode cX7_node 39 = .ok (.getfield 31, 3) := by decide +kernel
theorem dX7_node_42 : decode cX7_node 42 = .ok (.iload_n 3, 1) := by decide +kernel
theorem dX7_node_43 : decode cX7_node 43 = .ok (.iaload, 1) := by decide +kernel
theorem dX7_node_44 : decode cX7_node 44 = .ok (.goto 32, 3) := by decide +kernel
theorem dX7_node_47 : decode cX7_node 47 = .ok (.iload_n 2, 1) := by decide +kernel
theorem dX7_node_48 : decode cX7_node 48 = .ok (.iconst 2, 1) := by decide +kernel
theorem dX7_node_49 : decode cX7_node 49 = .ok (.if_icmp .ne 12, 3) := by decide +kernel
theorem dX7_node_5 : decode cX7_node 5 = .ok (.ifCond .ne 5, 3) := by decide +kernel
theorem dX7_node_52 : decode cX7_node 52 = .ok (.aload_n 0, 1) := by decide +kernel
theorem dX7_node_53 : decode cX7_node 53 = .ok (.getfield 34, 3) := by decide +kernel
theorem dX7_node_56 : decode cX7_node 56 = .ok (.iload_n 3, 1) := by decide +kernel
theorem dX7_node_57 : decode cX7_node 57 = .ok (.iaload, 1) := by decide +kernel
theorem dX7_node_58 : decode cX7_node 58 = .ok (.goto 18, 3) := by decide +kernel
theorem dX7_node_61 : decode cX7_node 61 = .ok (.iload_n 2, 1) := by decide +kernel
theorem dX7_node_62 : decode cX7_node 62 = .ok (.iconst 3, 1) := by decide +kernel
theorem dX7_node_63 : decode cX7_node 63 = .ok (.if_icmp .ne 12, 3) := by decide +kernel
theorem dX7_node_66 : decode cX7_node 66 = .ok (.aload_n 0, 1) := by decide +kernel
theorem dX7_node_67 : decode cX7_node 67 = .ok (.getfield 40, 3) := by decide +kernel
theorem dX7_node_70 : decode cX7_node 70 = .ok (.iload_n 3, 1) := by decide +kernel
theorem dX7_node_71 : decode cX7_node 71 = .ok (.iaload, 1) := by decide +kernel
theorem dX7_node_72 : decode cX7_node 72 = .ok (.goto 4, 3) := by decide +kernel
theorem dX7_node_75 : decode cX7_node 75 = .ok (.iconst (-1), 1) := by decide +kernel
theorem dX7_node_76 : decode cX7_node 76 = .ok (.ireturn, 1) := by decide +kernel
theorem dX7_node_8 : decode cX7_node 8 = .ok (.iconst (-1), 1) := by decide +kernel
theorem dX7_node_9 : decode cX7_node 9 = .ok (.ireturn, 1) := by decide +kernel
theorem dX7_on_0 : decode cX7_on 0 = .ok (.aload_n 0, 1) := by decide +kernel
theorem dX7_on_1 : decode cX7_on 1 = .ok (.getfield 267, 3) := by decide +kernel
theorem dX7_on_12 : decode cX7_on 12 = .ok (.ifCond .ne 7, 3) := by decide +kernel
theorem dX7_on_15 : decode cX7_on 15 = .ok (.iconst (-1), 1) := by decide +kernel
theorem dX7_on_16 : decode cX7_on 16 = .ok (.goto 9, 3) := by decide +kernel
theorem dX7_on_19 : decode cX7_on 19 = .ok (.aload_n 0, 1) := by decide +kernel
theorem dX7_on_20 : decode cX7_on 20 = .ok (.getfield 89, 3) := by decide +kernel
theorem dX7_on_23 : decode cX7_on 23 = .ok (.iload_n 1, 1) := by decide +kernel
theorem dX7_on_24 : decode cX7_on 24 = .ok (.iaload, 1) := by decide +kernel
theorem dX7_on_25 : decode cX7_on 25 = .ok (.ireturn, 1) := by decide +kernel
theorem dX7_on_4 : decode cX7_on 4 = .ok (.ifCond .eq 11, 3) := by decide +kernel
theorem dX7_on_7 : decode cX7_on 7 = .ok (.aload_n 0, 1) := by decide +kernel
theorem dX7_on_8 : decode cX7_on 8 = .ok (.iload_n 1, 1) := by decide +kernel
theorem dX7_on_9 : decode cX7_on 9 = .ok (.invokevirtual 301, 3) := by decide +kernel
theorem dX7_plain_0 : decode cX7_plain 0 = .ok (.lconst 0, 1) := by decide +kernel
theorem dX7_plain_1 : decode cX7_plain 1 = .ok (.lstore_n 2, 1) := by decide +kernel
theorem dX7_plain_11 : decode cX7_plain 11 = .ok (.lload_n 0, 1) := by decide +kernel
theorem dX7_plain_12 : decode cX7_plain 12 = .ok (.iload 4, 2) := by decide +kernel
theorem dX7_plain_14 : decode cX7_plain 14 = .ok (.lshr, 1) := by decide +kernel
theorem dX7_plain_15 : decode cX7_plain 15 = .ok (.ldc2_w 295, 3) := by decide +kernel
theorem dX7_plain_18 : decode cX7_plain 18 = .ok (.land, 1) := by decide +kernel
theorem dX7_plain_19 : decode cX7_plain 19 = .ok (.lconst 0, 1) := by decide +kernel
theorem dX7_plain_2 : decode cX7_plain 2 = .ok (.bipush 56, 2) := by decide +kernel
theorem dX7_plain_20 : decode cX7_plain 20 = .ok (.lcmp, 1) := by decide +kernel
theorem dX7_plain_21 : decode cX7_plain 21 = .ok (.ifCond .eq 17, 3) := by decide +kernel
theorem dX7_plain_24 : decode cX7_plain 24 = .ok (.lload_n 2, 1) := by decide +kernel
theorem dX7_plain_25 : decode cX7_plain 25 = .ok (.bipush 8, 2) := by decide +kernel
theorem dX7_plain_27 : decode cX7_plain 27 = .ok (.lshl, 1) := by decide +kernel
theorem dX7_plain_28 : decode cX7_plain 28 = .ok (.lload_n 0, 1) := by decide +kernel
theorem dX7_plain_29 : decode cX7_plain 29 = .ok (.iload 4, 2) := by decide +kernel
theorem dX7_plain_31 : decode cX7_plain 31 = .ok (.lshr, 1) := by decide +kernel
theorem dX7_plain_32 : decode cX7_plain 32 = .ok (.ldc2_w 295, 3) := by decide +kernel
theorem dX7_plain_35 : decode cX7_plain 35 = .ok (.land, 1) := by decide +kernel
theorem dX7_plain_36 : decode cX7_plain 36 = .ok (.lor, 1) := by decide +kernel
theorem dX7_plain_37 : decode cX7_plain 37 = .ok (.lstore_n 2, 1) := by decide +kernel
theorem dX7_plain_38 : decode cX7_plain 38 = .ok (.iinc 4 (-8), 3) := by decide +kernel
theorem dX7_plain_4 : decode cX7_plain 4 = .ok (.istore 4, 2) := by decide +kernel
theorem dX7_plain_41 : decode cX7_plain 41 = .ok (.goto (-35), 3) := by decide +kernel
theorem dX7_plain_44 : decode cX7_plain 44 = .ok (.lload_n 2, 1) := by decide +kernel
theorem dX7_plain_45 : decode cX7_plain 45 = .ok (.lreturn, 1) := by decide +kernel
theorem dX7_plain_6 : decode cX7_plain 6 = .ok (.iload 4, 2) := by decide +kernel
theorem dX7_plain_8 : decode cX7_plain 8 = .ok (.ifCond .lt 36, 3) := by decide +kernel
theorem dX7_put_0 : decode cX7_put 0 = .ok (.aload_n 0, 1) := by decide +kernel
theorem dX7_put_1 : decode cX7_put 1 = .ok (.getfield 267, 3) := by decide +kernel
theorem dX7_put_12 : decode cX7_put 12 = .ok (.ifCond .eq 20, 3) := by decide +kernel
theorem dX7_put_15 : decode cX7_put 15 = .ok (.aload_n 0, 1) := by decide +kernel
theorem dX7_put_16 : decode cX7_put 16 = .ok (.iload_n 1, 1) := by decide +kernel
theorem dX7_put_17 : decode cX7_put 17 = .ok (.invokevirtual 271, 3) := by decide +kernel
theorem dX7_put_20 : decode cX7_put 20 = .ok (.ifCond .ne 12, 3) := by decide +kernel
theorem dX7_put_23 : decode cX7_put 23 = .ok (.iload_n 2, 1) := by decide +kernel
theorem dX7_put_24 : decode cX7_put 24 = .ok (.ifCond .lt 8, 3) := by decide +kernel
theorem dX7_put_27 : decode cX7_put 27 = .ok (.iload_n 2, 1) := by decide +kernel
theorem dX7_put_28 : decode cX7_put 28 = .ok (.iconst 3, 1) := by decide +kernel
theorem dX7_put_29 : decode cX7_put 29 = .ok (.if_icmp .le 5, 3) := by decide +kernel
theorem dX7_put_32 : decode cX7_put 32 = .ok (.iconst 0, 1) := by decide +kernel
theorem dX7_put_33 : decode cX7_put 33 = .ok (.ireturn, 1) := by decide +kernel
theorem dX7_put_34 : decode cX7_put 34 = .ok (.aload_n 0, 1) := by decide +kernel
theorem dX7_put_35 : decode cX7_put 35 = .ok (.getfield 89, 3) := by decide +kernel
theorem dX7_put_38 : decode cX7_put 38 = .ok (.iload_n 1, 1) := by decide +kernel
theorem dX7_put_39 : decode cX7_put 39 = .ok (.iaload, 1) := by decide +kernel
theorem dX7_put_4 : decode cX7_put 4 = .ok (.ifCond .eq 28, 3) := by decide +kernel
theorem dX7_put_40 : decode cX7_put 40 = .ok (.iload_n 2, 1) := by decide +kernel
theorem dX7_put_41 : decode cX7_put 41 = .ok (.if_icmp .eq 9, 3) := by decide +kernel
theorem dX7_put_44 : decode cX7_put 44 = .ok (.aload_n 0, 1) := by decide +kernel
theorem dX7_put_45 : decode cX7_put 45 = .ok (.iload_n 1, 1) := by decide +kernel
theorem dX7_put_46 : decode cX7_put 46 = .ok (.iload_n 2, 1) := by decide +kernel
theorem dX7_put_47 : decode cX7_put 47 = .ok (.invokevirtual 322, 3) := by decide +kernel
theorem dX7_put_50 : decode cX7_put 50 = .ok (.iconst 1, 1) := by decide +kernel
theorem dX7_put_51 : decode cX7_put 51 = .ok (.ireturn, 1) := by decide +kernel
theorem dX7_put_7 : decode cX7_put 7 = .ok (.aload_n 0, 1) := by decide +kernel
theorem dX7_put_8 : decode cX7_put 8 = .ok (.iload_n 1, 1) := by decide +kernel
theorem dX7_put_9 : decode cX7_put 9 = .ok (.invokevirtual 301, 3) := by decide +kernel
theorem dX7_readDriver_0 : decode cX7_readDriver 0 = .ok (.iconst 0, 1) := by decide +kernel
theorem dX7_readDriver_1 : decode cX7_readDriver 1 = .ok (.istore 4, 2) := by decide +kernel
theorem dX7_readDriver_102 : decode cX7_readDriver 102 = .ok (.lload_n 1, 1) := by decide +kernel
theorem dX7_readDriver_103 : decode cX7_readDriver 103 = .ok (.lastore, 1) := by decide +kernel
theorem dX7_readDriver_104 : decode cX7_readDriver 104 = .ok (.aload_n 0, 1) := by decide +kernel
theorem dX7_readDriver_105 : decode cX7_readDriver 105 = .ok (.getfield 62, 3) := by decide +kernel
theorem dX7_readDriver_108 : decode cX7_readDriver 108 = .ok (.aload_n 0, 1) := by decide +kernel
theorem dX7_readDriver_109 : decode cX7_readDriver 109 = .ok (.getfield 217, 3) := by decide +kernel
theorem dX7_readDriver_112 : decode cX7_readDriver 112 = .ok (.aload_n 0, 1) := by decide +kernel
theorem dX7_readDriver_113 : decode cX7_readDriver 113 = .ok (.getfield 198, 3) := by decide +kernel
theorem dX7_readDriver_116 : decode cX7_readDriver 116 = .ok (.iastore, 1) := by decide +kernel
theorem dX7_readDriver_117 : decode cX7_readDriver 117 = .ok (.aload_n 0, 1) := by decide +kernel
theorem dX7_readDriver_118 : decode cX7_readDriver 118 = .ok (.dup, 1) := by decide +kernel
theorem dX7_readDriver_119 : decode cX7_readDriver 119 = .ok (.getfield 198, 3) := by decide +kernel
theorem dX7_readDriver_12 : decode cX7_readDriver 12 = .ok (.if_icmp .ge 31, 3) := by decide +kernel
theorem dX7_readDriver_122 : decode cX7_readDriver 122 = .ok (.iconst 1, 1) := by decide +kernel
theorem dX7_readDriver_123 : decode cX7_readDriver 123 = .ok (.iadd, 1) := by decide +kernel
theorem dX7_readDriver_124 : decode cX7_readDriver 124 = .ok (.putfield 198, 3) := by decide +kernel
theorem dX7_readDriver_127 : decode cX7_readDriver 127 = .ok (.aload_n 0, 1) := by decide +kernel
theorem dX7_readDriver_128 : decode cX7_readDriver 128 = .ok (.invokevirtual 179, 3) := by decide +kernel
theorem dX7_readDriver_131 : decode cX7_readDriver 131 = .ok (.aload_n 0, 1) := by decide +kernel
theorem dX7_readDriver_132 : decode cX7_readDriver 132 = .ok (.ldc2_w 165, 3) := by decide +kernel
theorem dX7_readDriver_135 : decode cX7_readDriver 135 = .ok (.invokevirtual 220, 3) := by decide +kernel
theorem dX7_readDriver_138 : decode cX7_readDriver 138 = .ok (.ifCond .ne 17, 3) := by decide +kernel
theorem dX7_readDriver_141 : decode cX7_readDriver 141 = .ok (.aload_n 0, 1) := by decide +kernel
theorem dX7_readDriver_142 : decode cX7_readDriver 142 = .ok (.ldc2_w 167, 3) := by decide +kernel
theorem dX7_readDriver_145 : decode cX7_readDriver 145 = .ok (.invokevirtual 220, 3) := by decide +kernel
theorem dX7_readDriver_148 : decode cX7_readDriver 148 = .ok (.ifCond .ne 7, 3) := by decide +kernel
theorem dX7_readDriver_15 : decode cX7_readDriver 15 = .ok (.iload 4, 2) := by decide +kernel
theorem dX7_readDriver_151 : decode cX7_readDriver 151 = .ok (.aload_n 0, 1) := by decide +kernel
theorem dX7_readDriver_152 : decode cX7_readDriver 152 = .ok (.invokevirtual 182, 3) := by decide +kernel
theorem dX7_readDriver_155 : decode cX7_readDriver 155 = .ok (.aload_n 0, 1) := by decide +kernel
theorem dX7_readDriver_156 : decode cX7_readDriver 156 = .ok (.invokevirtual 191, 3) := by decide +kernel
theorem dX7_readDriver_159 : decode cX7_readDriver 159 = .ok (.ifCond .ne 4, 3) := by decide +kernel
theorem dX7_readDriver_162 : decode cX7_readDriver 162 = .ok (.return_, 1) := by decide +kernel
theorem dX7_readDriver_163 : decode cX7_readDriver 163 = .ok (.aload_n 0, 1) := by decide +kernel
theorem dX7_readDriver_164 : decode cX7_readDriver 164 = .ok (.getfield 65, 3) := by decide +kernel
theorem dX7_readDriver_167 : decode cX7_readDriver 167 = .ok (.aload_n 0, 1) := by decide +kernel
theorem dX7_readDriver_168 : decode cX7_readDriver 168 = .ok (.getfield 217, 3) := by decide +kernel
theorem dX7_readDriver_17 : decode cX7_readDriver 17 = .ok (.aload_n 0, 1) := by decide +kernel
theorem dX7_readDriver_171 : decode cX7_readDriver 171 = .ok (.aload_n 0, 1) := by decide +kernel
theorem dX7_readDriver_172 : decode cX7_readDriver 172 = .ok (.ldc2_w 165, 3) := by decide +kernel
theorem dX7_readDriver_175 : decode cX7_readDriver 175 = .ok (.invokevirtual 220, 3) := by decide +kernel
theorem dX7_readDriver_178 : decode cX7_readDriver 178 = .ok (.bastore, 1) := by decide +kernel
theorem dX7_readDriver_179 : decode cX7_readDriver 179 = .ok (.aload_n 0, 1) := by decide +kernel
theorem dX7_readDriver_18 : decode cX7_readDriver 18 = .ok (.getfield 59, 3) := by decide +kernel
theorem dX7_readDriver_180 : decode cX7_readDriver 180 = .ok (.dup, 1) := by decide +kernel
theorem dX7_readDriver_181 : decode cX7_readDriver 181 = .ok (.getfield 217, 3) := by decide +kernel
theorem dX7_readDriver_184 : decode cX7_readDriver 184 = .ok (.iconst 1, 1) := by decide +kernel
theorem dX7_readDriver_185 : decode cX7_readDriver 185 = .ok (.iadd, 1) := by decide +kernel
theorem dX7_readDriver_186 : decode cX7_readDriver 186 = .ok (.putfield 217, 3) := by decide +kernel
theorem dX7_readDriver_189 : decode cX7_readDriver 189 = .ok (.aload_n 0, 1) := by decide +kernel
theorem dX7_readDriver_190 : decode cX7_readDriver 190 = .ok (.invokevirtual 179, 3) := by decide +kernel
theorem dX7_readDriver_193 : decode cX7_readDriver 193 = .ok (.aload_n 0, 1) := by decide +kernel
theorem dX7_readDriver_194 : decode cX7_readDriver 194 = .ok (.bipush 40, 2) := by decide +kernel
theorem dX7_readDriver_196 : decode cX7_readDriver 196 = .ok (.invokevirtual 204, 3) := by decide +kernel
theorem dX7_readDriver_199 : decode cX7_readDriver 199 = .ok (.aload_n 0, 1) := by decide +kernel
theorem dX7_readDriver_200 : decode cX7_readDriver 200 = .ok (.invokevirtual 191, 3) := by decide +kernel
theorem dX7_readDriver_203 : decode cX7_readDriver 203 = .ok (.ifCond .eq 8, 3) := by decide +kernel
theorem dX7_readDriver_206 : decode cX7_readDriver 206 = .ok (.aload_n 0, 1) := by decide +kernel
theorem dX7_readDriver_207 : decode cX7_readDriver 207 = .ok (.iconst 0, 1) := by decide +kernel
theorem dX7_readDriver_208 : decode cX7_readDriver 208 = .ok (.invokevirtual 208, 3) := by decide +kernel
theorem dX7_readDriver_21 : decode cX7_readDriver 21 = .ok (.iload 5, 2) := by decide +kernel
theorem dX7_readDriver_211 : decode cX7_readDriver 211 = .ok (.aload_n 0, 1) := by decide +kernel
theorem dX7_readDriver_212 : decode cX7_readDriver 212 = .ok (.invokevirtual 191, 3) := by decide +kernel
theorem dX7_readDriver_215 : decode cX7_readDriver 215 = .ok (.ifCond .eq 9, 3) := by decide +kernel
theorem dX7_readDriver_218 : decode cX7_readDriver 218 = .ok (.aload_n 0, 1) := by decide +kernel
theorem dX7_readDriver_219 : decode cX7_readDriver 219 = .ok (.bipush 44, 2) := by decide +kernel
theorem dX7_readDriver_221 : decode cX7_readDriver 221 = .ok (.invokevirtual 204, 3) := by decide +kernel
theorem dX7_readDriver_224 : decode cX7_readDriver 224 = .ok (.aload_n 0, 1) := by decide +kernel
theorem dX7_readDriver_225 : decode cX7_readDriver 225 = .ok (.invokevirtual 191, 3) := by decide +kernel
theorem dX7_readDriver_228 : decode cX7_readDriver 228 = .ok (.ifCond .eq 8, 3) := by decide +kernel
theorem dX7_readDriver_23 : decode cX7_readDriver 23 = .ok (.laload, 1) := by decide +kernel
theorem dX7_readDriver_231 : decode cX7_readDriver 231 = .ok (.aload_n 0, 1) := by decide +kernel
theorem dX7_readDriver_232 : decode cX7_readDriver 232 = .ok (.iconst 0, 1) := by decide +kernel
theorem dX7_readDriver_233 : decode cX7_readDriver 233 = .ok (.invokevirtual 208, 3) := by decide +kernel
theorem dX7_readDriver_236 : decode cX7_readDriver 236 = .ok (.aload_n 0, 1) := by decide +kernel
theorem dX7_readDriver_237 : decode cX7_readDriver 237 = .ok (.invokevirtual 191, 3) := by decide +kernel
theorem dX7_readDriver_24 : decode cX7_readDriver 24 = .ok (.lload_n 1, 1) := by decide +kernel
theorem dX7_readDriver_240 : decode cX7_readDriver 240 = .ok (.ifCond .eq 9, 3) := by decide +kernel
theorem dX7_readDriver_243 : decode cX7_readDriver 243 = .ok (.aload_n 0, 1) := by decide +kernel
theorem dX7_readDriver_244 : decode cX7_readDriver 244 = .ok (.bipush 41, 2) := by decide +kernel
theorem dX7_readDriver_246 : decode cX7_readDriver 246 = .ok (.invokevirtual 204, 3) := by decide +kernel
theorem dX7_readDriver_249 : decode cX7_readDriver 249 = .ok (.aload_n 0, 1) := by decide +kernel
theorem dX7_readDriver_25 : decode cX7_readDriver 25 = .ok (.lcmp, 1) := by decide +kernel
theorem dX7_readDriver_250 : decode cX7_readDriver 250 = .ok (.invokevirtual 191, 3) := by decide +kernel
theorem dX7_readDriver_253 : decode cX7_readDriver 253 = .ok (.ifCond .eq 9, 3) := by decide +kernel
theorem dX7_readDriver_256 : decode cX7_readDriver 256 = .ok (.aload_n 0, 1) := by decide +kernel
theorem dX7_readDriver_257 : decode cX7_readDriver 257 = .ok (.bipush 59, 2) := by decide +kernel
theorem dX7_readDriver_259 : decode cX7_readDriver 259 = .ok (.invokevirtual 204, 3) := by decide +kernel
theorem dX7_readDriver_26 : decode cX7_readDriver 26 = .ok (.ifCond .ne 7, 3) := by decide +kernel
theorem dX7_readDriver_262 : decode cX7_readDriver 262 = .ok (.return_, 1) := by decide +kernel
theorem dX7_readDriver_29 : decode cX7_readDriver 29 = .ok (.iconst 1, 1) := by decide +kernel
theorem dX7_readDriver_3 : decode cX7_readDriver 3 = .ok (.iconst 0, 1) := by decide +kernel
theorem dX7_readDriver_30 : decode cX7_readDriver 30 = .ok (.goto 4, 3) := by decide +kernel
theorem dX7_readDriver_33 : decode cX7_readDriver 33 = .ok (.iconst 0, 1) := by decide +kernel
theorem dX7_readDriver_34 : decode cX7_readDriver 34 = .ok (.iadd, 1) := by decide +kernel
theorem dX7_readDriver_35 : decode cX7_readDriver 35 = .ok (.istore 4, 2) := by decide +kernel
theorem dX7_readDriver_37 : decode cX7_readDriver 37 = .ok (.iinc 5 1, 3) := by decide +kernel
theorem dX7_readDriver_4 : decode cX7_readDriver 4 = .ok (.istore 5, 2) := by decide +kernel
theorem dX7_readDriver_40 : decode cX7_readDriver 40 = .ok (.goto (-34), 3) := by decide +kernel
theorem dX7_readDriver_43 : decode cX7_readDriver 43 = .ok (.iload 4, 2) := by decide +kernel
theorem dX7_readDriver_45 : decode cX7_readDriver 45 = .ok (.bipush 6, 2) := by decide +kernel
theorem dX7_readDriver_47 : decode cX7_readDriver 47 = .ok (.if_icmp .ne 9, 3) := by decide +kernel
theorem dX7_readDriver_50 : decode cX7_readDriver 50 = .ok (.aload_n 0, 1) := by decide +kernel
theorem dX7_readDriver_51 : decode cX7_readDriver 51 = .ok (.iconst 2, 1) := by decide +kernel
theorem dX7_readDriver_52 : decode cX7_readDriver 52 = .ok (.iload_n 3, 1) := by decide +kernel
theorem dX7_readDriver_53 : decode cX7_readDriver 53 = .ok (.invokevirtual 172, 3) := by decide +kernel
theorem dX7_readDriver_56 : decode cX7_readDriver 56 = .ok (.aload_n 0, 1) := by decide +kernel
theorem dX7_readDriver_57 : decode cX7_readDriver 57 = .ok (.invokevirtual 191, 3) := by decide +kernel
theorem dX7_readDriver_6 : decode cX7_readDriver 6 = .ok (.iload 5, 2) := by decide +kernel
theorem dX7_readDriver_60 : decode cX7_readDriver 60 = .ok (.ifCond .ne 4, 3) := by decide +kernel
theorem dX7_readDriver_63 : decode cX7_readDriver 63 = .ok (.return_, 1) := by decide +kernel
theorem dX7_readDriver_64 : decode cX7_readDriver 64 = .ok (.aload_n 0, 1) := by decide +kernel
theorem dX7_readDriver_65 : decode cX7_readDriver 65 = .ok (.getfield 50, 3) := by decide +kernel
theorem dX7_readDriver_68 : decode cX7_readDriver 68 = .ok (.aload_n 0, 1) := by decide +kernel
theorem dX7_readDriver_69 : decode cX7_readDriver 69 = .ok (.getfield 198, 3) := by decide +kernel
theorem dX7_readDriver_72 : decode cX7_readDriver 72 = .ok (.lload_n 1, 1) := by decide +kernel
theorem dX7_readDriver_73 : decode cX7_readDriver 73 = .ok (.lastore, 1) := by decide +kernel
theorem dX7_readDriver_74 : decode cX7_readDriver 74 = .ok (.aload_n 0, 1) := by decide +kernel
theorem dX7_readDriver_75 : decode cX7_readDriver 75 = .ok (.getfield 53, 3) := by decide +kernel
theorem dX7_readDriver_78 : decode cX7_readDriver 78 = .ok (.aload_n 0, 1) := by decide +kernel
theorem dX7_readDriver_79 : decode cX7_readDriver 79 = .ok (.getfield 198, 3) := by decide +kernel
theorem dX7_readDriver_8 : decode cX7_readDriver 8 = .ok (.aload_n 0, 1) := by decide +kernel
theorem dX7_readDriver_82 : decode cX7_readDriver 82 = .ok (.iload_n 3, 1) := by decide +kernel
theorem dX7_readDriver_83 : decode cX7_readDriver 83 = .ok (.iastore, 1) := by decide +kernel
theorem dX7_readDriver_84 : decode cX7_readDriver 84 = .ok (.aload_n 0, 1) := by decide +kernel
theorem dX7_readDriver_85 : decode cX7_readDriver 85 = .ok (.getfield 56, 3) := by decide +kernel
theorem dX7_readDriver_88 : decode cX7_readDriver 88 = .ok (.aload_n 0, 1) := by decide +kernel
theorem dX7_readDriver_89 : decode cX7_readDriver 89 = .ok (.getfield 198, 3) := by decide +kernel
theorem dX7_readDriver_9 : decode cX7_readDriver 9 = .ok (.getfield 217, 3) := by decide +kernel
theorem dX7_readDriver_92 : decode cX7_readDriver 92 = .ok (.iconst (-1), 1) := by decide +kernel
theorem dX7_readDriver_93 : decode cX7_readDriver 93 = .ok (.iastore, 1) := by decide +kernel
theorem dX7_readDriver_94 : decode cX7_readDriver 94 = .ok (.aload_n 0, 1) := by decide +kernel
theorem dX7_readDriver_95 : decode cX7_readDriver 95 = .ok (.getfield 59, 3) := by decide +kernel
theorem dX7_readDriver_98 : decode cX7_readDriver 98 = .ok (.aload_n 0, 1) := by decide +kernel
theorem dX7_readDriver_99 : decode cX7_readDriver 99 = .ok (.getfield 217, 3) := by decide +kernel
theorem dX7_readGate_0 : decode cX7_readGate 0 = .ok (.aload_n 0, 1) := by decide +kernel
theorem dX7_readGate_1 : decode cX7_readGate 1 = .ok (.getfield 185, 3) := by decide +kernel
theorem dX7_readGate_10 : decode cX7_readGate 10 = .ok (.iconst 2, 1) := by decide +kernel
theorem dX7_readGate_100 : decode cX7_readGate 100 = .ok (.putfield 185, 3) := by decide +kernel
theorem dX7_readGate_103 : decode cX7_readGate 103 = .ok (.aload_n 0, 1) := by decide +kernel
theorem dX7_readGate_104 : decode cX7_readGate 104 = .ok (.invokevirtual 179, 3) := by decide +kernel
theorem dX7_readGate_107 : decode cX7_readGate 107 = .ok (.aload_n 0, 1) := by decide +kernel
theorem dX7_readGate_108 : decode cX7_readGate 108 = .ok (.getfield 141, 3) := by decide +kernel
theorem dX7_readGate_11 : decode cX7_readGate 11 = .ok (.iload_n 3, 1) := by decide +kernel
theorem dX7_readGate_111 : decode cX7_readGate 111 = .ok (.iconst 3, 1) := by decide +kernel
theorem dX7_readGate_112 : decode cX7_readGate 112 = .ok (.if_icmp .ne 13, 3) := by decide +kernel
theorem dX7_readGate_115 : decode cX7_readGate 115 = .ok (.aload_n 0, 1) := by decide +kernel
theorem dX7_readGate_116 : decode cX7_readGate 116 = .ok (.getfield 151, 3) := by decide +kernel
theorem dX7_readGate_119 : decode cX7_readGate 119 = .ok (.invokestatic 155, 3) := by decide +kernel
theorem dX7_readGate_12 : decode cX7_readGate 12 = .ok (.invokevirtual 172, 3) := by decide +kernel
theorem dX7_readGate_122 : decode cX7_readGate 122 = .ok (.goto 4, 3) := by decide +kernel
theorem dX7_readGate_125 : decode cX7_readGate 125 = .ok (.iconst (-1), 1) := by decide +kernel
theorem dX7_readGate_126 : decode cX7_readGate 126 = .ok (.istore 5, 2) := by decide +kernel
theorem dX7_readGate_128 : decode cX7_readGate 128 = .ok (.iload 5, 2) := by decide +kernel
theorem dX7_readGate_130 : decode cX7_readGate 130 = .ok (.ifCond .ge 7, 3) := by decide +kernel
theorem dX7_readGate_133 : decode cX7_readGate 133 = .ok (.aload_n 0, 1) := by decide +kernel
theorem dX7_readGate_134 : decode cX7_readGate 134 = .ok (.invokevirtual 182, 3) := by decide +kernel
theorem dX7_readGate_137 : decode cX7_readGate 137 = .ok (.aload_n 0, 1) := by decide +kernel
theorem dX7_readGate_138 : decode cX7_readGate 138 = .ok (.invokevirtual 191, 3) := by decide +kernel
theorem dX7_readGate_141 : decode cX7_readGate 141 = .ok (.ifCond .ne 4, 3) := by decide +kernel
theorem dX7_readGate_144 : decode cX7_readGate 144 = .ok (.return_, 1) := by decide +kernel
theorem dX7_readGate_145 : decode cX7_readGate 145 = .ok (.aload_n 0, 1) := by decide +kernel
theorem dX7_readGate_146 : decode cX7_readGate 146 = .ok (.getfield 28, 3) := by decide +kernel
theorem dX7_readGate_149 : decode cX7_readGate 149 = .ok (.iload 4, 2) := by decide +kernel
theorem dX7_readGate_15 : decode cX7_readGate 15 = .ok (.aload_n 0, 1) := by decide +kernel
theorem dX7_readGate_151 : decode cX7_readGate 151 = .ok (.iload 5, 2) := by decide +kernel
theorem dX7_readGate_153 : decode cX7_readGate 153 = .ok (.iastore, 1) := by decide +kernel
theorem dX7_readGate_154 : decode cX7_readGate 154 = .ok (.aload_n 0, 1) := by decide +kernel
theorem dX7_readGate_155 : decode cX7_readGate 155 = .ok (.invokevirtual 179, 3) := by decide +kernel
theorem dX7_readGate_158 : decode cX7_readGate 158 = .ok (.aload_n 0, 1) := by decide +kernel
theorem dX7_readGate_159 : decode cX7_readGate 159 = .ok (.bipush 40, 2) := by decide +kernel
theorem dX7_readGate_16 : decode cX7_readGate 16 = .ok (.lload_n 1, 1) := by decide +kernel
theorem dX7_readGate_161 : decode cX7_readGate 161 = .ok (.invokevirtual 176, 3) := by decide +kernel
theorem dX7_readGate_164 : decode cX7_readGate 164 = .ok (.ifCond .ne 7, 3) := by decide +kernel
theorem dX7_readGate_167 : decode cX7_readGate 167 = .ok (.aload_n 0, 1) := by decide +kernel
theorem dX7_readGate_168 : decode cX7_readGate 168 = .ok (.invokevirtual 182, 3) := by decide +kernel
theorem dX7_readGate_17 : decode cX7_readGate 17 = .ok (.invokevirtual 195, 3) := by decide +kernel
theorem dX7_readGate_171 : decode cX7_readGate 171 = .ok (.iconst 1, 1) := by decide +kernel
theorem dX7_readGate_172 : decode cX7_readGate 172 = .ok (.istore 6, 2) := by decide +kernel
theorem dX7_readGate_174 : decode cX7_readGate 174 = .ok (.iload 6, 2) := by decide +kernel
theorem dX7_readGate_176 : decode cX7_readGate 176 = .ok (.ifCond .eq 103, 3) := by decide +kernel
theorem dX7_readGate_179 : decode cX7_readGate 179 = .ok (.aload_n 0, 1) := by decide +kernel
theorem dX7_readGate_180 : decode cX7_readGate 180 = .ok (.invokevirtual 191, 3) := by decide +kernel
theorem dX7_readGate_183 : decode cX7_readGate 183 = .ok (.ifCond .eq 96, 3) := by decide +kernel
theorem dX7_readGate_186 : decode cX7_readGate 186 = .ok (.aload_n 0, 1) := by decide +kernel
theorem dX7_readGate_187 : decode cX7_readGate 187 = .ok (.invokevirtual 179, 3) := by decide +kernel
theorem dX7_readGate_190 : decode cX7_readGate 190 = .ok (.aload_n 0, 1) := by decide +kernel
theorem dX7_readGate_191 : decode cX7_readGate 191 = .ok (.getfield 141, 3) := by decide +kernel
theorem dX7_readGate_194 : decode cX7_readGate 194 = .ok (.iconst 2, 1) := by decide +kernel
theorem dX7_readGate_195 : decode cX7_readGate 195 = .ok (.if_icmp .ne 22, 3) := by decide +kernel
theorem dX7_readGate_198 : decode cX7_readGate 198 = .ok (.aload_n 0, 1) := by decide +kernel
theorem dX7_readGate_199 : decode cX7_readGate 199 = .ok (.getfield 31, 3) := by decide +kernel
theorem dX7_readGate_20 : decode cX7_readGate 20 = .ok (.ifCond .lt 9, 3) := by decide +kernel
theorem dX7_readGate_202 : decode cX7_readGate 202 = .ok (.iload 4, 2) := by decide +kernel
theorem dX7_readGate_204 : decode cX7_readGate 204 = .ok (.iaload, 1) := by decide +kernel
theorem dX7_readGate_205 : decode cX7_readGate 205 = .ok (.iload 5, 2) := by decide +kernel
theorem dX7_readGate_207 : decode cX7_readGate 207 = .ok (.invokestatic 211, 3) := by decide +kernel
theorem dX7_readGate_210 : decode cX7_readGate 210 = .ok (.if_icmp .ne 7, 3) := by decide +kernel
theorem dX7_readGate_213 : decode cX7_readGate 213 = .ok (.aload_n 0, 1) := by decide +kernel
theorem dX7_readGate_214 : decode cX7_readGate 214 = .ok (.invokevirtual 182, 3) := by decide +kernel
theorem dX7_readGate_217 : decode cX7_readGate 217 = .ok (.aload_n 0, 1) := by decide +kernel
theorem dX7_readGate_218 : decode cX7_readGate 218 = .ok (.invokevirtual 191, 3) := by decide +kernel
theorem dX7_readGate_221 : decode cX7_readGate 221 = .ok (.ifCond .ne 4, 3) := by decide +kernel
theorem dX7_readGate_224 : decode cX7_readGate 224 = .ok (.return_, 1) := by decide +kernel
theorem dX7_readGate_225 : decode cX7_readGate 225 = .ok (.aload_n 0, 1) := by decide +kernel
theorem dX7_readGate_226 : decode cX7_readGate 226 = .ok (.bipush 12, 2) := by decide +kernel
theorem dX7_readGate_228 : decode cX7_readGate 228 = .ok (.iload 4, 2) := by decide +kernel
theorem dX7_readGate_23 : decode cX7_readGate 23 = .ok (.aload_n 0, 1) := by decide +kernel
theorem dX7_readGate_230 : decode cX7_readGate 230 = .ok (.imul, 1) := by decide +kernel
theorem dX7_readGate_231 : decode cX7_readGate 231 = .ok (.aload_n 0, 1) := by decide +kernel
theorem dX7_readGate_232 : decode cX7_readGate 232 = .ok (.getfield 31, 3) := by decide +kernel
theorem dX7_readGate_235 : decode cX7_readGate 235 = .ok (.iload 4, 2) := by decide +kernel
theorem dX7_readGate_237 : decode cX7_readGate 237 = .ok (.iaload, 1) := by decide +kernel
theorem dX7_readGate_238 : decode cX7_readGate 238 = .ok (.iadd, 1) := by decide +kernel
theorem dX7_readGate_239 : decode cX7_readGate 239 = .ok (.invokevirtual 208, 3) := by decide +kernel
theorem dX7_readGate_24 : decode cX7_readGate 24 = .ok (.iconst 3, 1) := by decide +kernel
theorem dX7_readGate_242 : decode cX7_readGate 242 = .ok (.aload_n 0, 1) := by decide +kernel
theorem dX7_readGate_243 : decode cX7_readGate 243 = .ok (.getfield 31, 3) := by decide +kernel
theorem dX7_readGate_246 : decode cX7_readGate 246 = .ok (.iload 4, 2) := by decide +kernel
theorem dX7_readGate_248 : decode cX7_readGate 248 = .ok (.dup2, 1) := by decide +kernel
theorem dX7_readGate_249 : decode cX7_readGate 249 = .ok (.iaload, 1) := by decide +kernel
theorem dX7_readGate_25 : decode cX7_readGate 25 = .ok (.iload_n 3, 1) := by decide +kernel
theorem dX7_readGate_250 : decode cX7_readGate 250 = .ok (.iconst 1, 1) := by decide +kernel
theorem dX7_readGate_251 : decode cX7_readGate 251 = .ok (.iadd, 1) := by decide +kernel
theorem dX7_readGate_252 : decode cX7_readGate 252 = .ok (.iastore, 1) := by decide +kernel
theorem dX7_readGate_253 : decode cX7_readGate 253 = .ok (.aload_n 0, 1) := by decide +kernel
theorem dX7_readGate_254 : decode cX7_readGate 254 = .ok (.invokevirtual 191, 3) := by decide +kernel
theorem dX7_readGate_257 : decode cX7_readGate 257 = .ok (.ifCond .eq 16, 3) := by decide +kernel
theorem dX7_readGate_26 : decode cX7_readGate 26 = .ok (.invokevirtual 172, 3) := by decide +kernel
theorem dX7_readGate_260 : decode cX7_readGate 260 = .ok (.aload_n 0, 1) := by decide +kernel
theorem dX7_readGate_261 : decode cX7_readGate 261 = .ok (.bipush 44, 2) := by decide +kernel
theorem dX7_readGate_263 : decode cX7_readGate 263 = .ok (.invokevirtual 176, 3) := by decide +kernel
theorem dX7_readGate_266 : decode cX7_readGate 266 = .ok (.ifCond .eq 7, 3) := by decide +kernel
theorem dX7_readGate_269 : decode cX7_readGate 269 = .ok (.iconst 1, 1) := by decide +kernel
theorem dX7_readGate_270 : decode cX7_readGate 270 = .ok (.goto 4, 3) := by decide +kernel
theorem dX7_readGate_273 : decode cX7_readGate 273 = .ok (.iconst 0, 1) := by decide +kernel
theorem dX7_readGate_274 : decode cX7_readGate 274 = .ok (.istore 6, 2) := by decide +kernel
theorem dX7_readGate_276 : decode cX7_readGate 276 = .ok (.goto (-102), 3) := by decide +kernel
theorem dX7_readGate_279 : decode cX7_readGate 279 = .ok (.aload_n 0, 1) := by decide +kernel
theorem dX7_readGate_280 : decode cX7_readGate 280 = .ok (.invokevirtual 191, 3) := by decide +kernel
theorem dX7_readGate_283 : decode cX7_readGate 283 = .ok (.ifCond .eq 31, 3) := by decide +kernel
theorem dX7_readGate_286 : decode cX7_readGate 286 = .ok (.aload_n 0, 1) := by decide +kernel
theorem dX7_readGate_287 : decode cX7_readGate 287 = .ok (.bipush 41, 2) := by decide +kernel
theorem dX7_readGate_289 : decode cX7_readGate 289 = .ok (.invokevirtual 176, 3) := by decide +kernel
theorem dX7_readGate_29 : decode cX7_readGate 29 = .ok (.aload_n 0, 1) := by decide +kernel
theorem dX7_readGate_292 : decode cX7_readGate 292 = .ok (.ifCond .eq 22, 3) := by decide +kernel
theorem dX7_readGate_295 : decode cX7_readGate 295 = .ok (.aload_n 0, 1) := by decide +kernel
theorem dX7_readGate_296 : decode cX7_readGate 296 = .ok (.getfield 31, 3) := by decide +kernel
theorem dX7_readGate_299 : decode cX7_readGate 299 = .ok (.iload 4, 2) := by decide +kernel
theorem dX7_readGate_30 : decode cX7_readGate 30 = .ok (.invokevirtual 191, 3) := by decide +kernel
theorem dX7_readGate_301 : decode cX7_readGate 301 = .ok (.iaload, 1) := by decide +kernel
theorem dX7_readGate_302 : decode cX7_readGate 302 = .ok (.iload 5, 2) := by decide +kernel
theorem dX7_readGate_304 : decode cX7_readGate 304 = .ok (.invokestatic 214, 3) := by decide +kernel
theorem dX7_readGate_307 : decode cX7_readGate 307 = .ok (.if_icmp .ge 7, 3) := by decide +kernel
theorem dX7_readGate_310 : decode cX7_readGate 310 = .ok (.aload_n 0, 1) := by decide +kernel
theorem dX7_readGate_311 : decode cX7_readGate 311 = .ok (.invokevirtual 182, 3) := by decide +kernel
theorem dX7_readGate_314 : decode cX7_readGate 314 = .ok (.aload_n 0, 1) := by decide +kernel
theorem dX7_readGate_315 : decode cX7_readGate 315 = .ok (.invokevirtual 191, 3) := by decide +kernel
theorem dX7_readGate_318 : decode cX7_readGate 318 = .ok (.ifCond .eq 9, 3) := by decide +kernel
theorem dX7_readGate_321 : decode cX7_readGate 321 = .ok (.aload_n 0, 1) := by decide +kernel
theorem dX7_readGate_322 : decode cX7_readGate 322 = .ok (.bipush 41, 2) := by decide +kernel
theorem dX7_readGate_324 : decode cX7_readGate 324 = .ok (.invokevirtual 204, 3) := by decide +kernel
theorem dX7_readGate_327 : decode cX7_readGate 327 = .ok (.aload_n 0, 1) := by decide +kernel
theorem dX7_readGate_328 : decode cX7_readGate 328 = .ok (.invokevirtual 191, 3) := by decide +kernel
theorem dX7_readGate_33 : decode cX7_readGate 33 = .ok (.ifCond .ne 4, 3) := by decide +kernel
theorem dX7_readGate_331 : decode cX7_readGate 331 = .ok (.ifCond .eq 26, 3) := by decide +kernel
theorem dX7_readGate_334 : decode cX7_readGate 334 = .ok (.aload_n 0, 1) := by decide +kernel
theorem dX7_readGate_335 : decode cX7_readGate 335 = .ok (.getfield 141, 3) := by decide +kernel
theorem dX7_readGate_338 : decode cX7_readGate 338 = .ok (.iconst 4, 1) := by decide +kernel
theorem dX7_readGate_339 : decode cX7_readGate 339 = .ok (.if_icmp .ne 18, 3) := by decide +kernel
theorem dX7_readGate_342 : decode cX7_readGate 342 = .ok (.aload_n 0, 1) := by decide +kernel
theorem dX7_readGate_343 : decode cX7_readGate 343 = .ok (.getfield 34, 3) := by decide +kernel
theorem dX7_readGate_346 : decode cX7_readGate 346 = .ok (.iload 4, 2) := by decide +kernel
theorem dX7_readGate_348 : decode cX7_readGate 348 = .ok (.aload_n 0, 1) := by decide +kernel
theorem dX7_readGate_349 : decode cX7_readGate 349 = .ok (.getfield 169, 3) := by decide +kernel
theorem dX7_readGate_352 : decode cX7_readGate 352 = .ok (.iastore, 1) := by decide +kernel
theorem dX7_readGate_353 : decode cX7_readGate 353 = .ok (.aload_n 0, 1) := by decide +kernel
theorem dX7_readGate_354 : decode cX7_readGate 354 = .ok (.invokevirtual 179, 3) := by decide +kernel
theorem dX7_readGate_357 : decode cX7_readGate 357 = .ok (.aload_n 0, 1) := by decide +kernel
theorem dX7_readGate_358 : decode cX7_readGate 358 = .ok (.invokevirtual 191, 3) := by decide +kernel
theorem dX7_readGate_36 : decode cX7_readGate 36 = .ok (.return_, 1) := by decide +kernel
theorem dX7_readGate_361 : decode cX7_readGate 361 = .ok (.ifCond .eq 9, 3) := by decide +kernel
theorem dX7_readGate_364 : decode cX7_readGate 364 = .ok (.aload_n 0, 1) := by decide +kernel
theorem dX7_readGate_365 : decode cX7_readGate 365 = .ok (.bipush 59, 2) := by decide +kernel
theorem dX7_readGate_367 : decode cX7_readGate 367 = .ok (.invokevirtual 204, 3) := by decide +kernel
theorem dX7_readGate_37 : decode cX7_readGate 37 = .ok (.bipush 60, 2) := by decide +kernel
theorem dX7_readGate_370 : decode cX7_readGate 370 = .ok (.return_, 1) := by decide +kernel
theorem dX7_readGate_39 : decode cX7_readGate 39 = .ok (.aload_n 0, 1) := by decide +kernel
theorem dX7_readGate_4 : decode cX7_readGate 4 = .ok (.bipush 60, 2) := by decide +kernel
theorem dX7_readGate_40 : decode cX7_readGate 40 = .ok (.getfield 188, 3) := by decide +kernel
theorem dX7_readGate_43 : decode cX7_readGate 43 = .ok (.imul, 1) := by decide +kernel
theorem dX7_readGate_44 : decode cX7_readGate 44 = .ok (.aload_n 0, 1) := by decide +kernel
theorem dX7_readGate_45 : decode cX7_readGate 45 = .ok (.getfield 185, 3) := by decide +kernel
theorem dX7_readGate_48 : decode cX7_readGate 48 = .ok (.iadd, 1) := by decide +kernel
theorem dX7_readGate_49 : decode cX7_readGate 49 = .ok (.istore 4, 2) := by decide +kernel
theorem dX7_readGate_51 : decode cX7_readGate 51 = .ok (.aload_n 0, 1) := by decide +kernel
theorem dX7_readGate_52 : decode cX7_readGate 52 = .ok (.getfield 20, 3) := by decide +kernel
theorem dX7_readGate_55 : decode cX7_readGate 55 = .ok (.iload 4, 2) := by decide +kernel
theorem dX7_readGate_57 : decode cX7_readGate 57 = .ok (.lload_n 1, 1) := by decide +kernel
theorem dX7_readGate_58 : decode cX7_readGate 58 = .ok (.lastore, 1) := by decide +kernel
theorem dX7_readGate_59 : decode cX7_readGate 59 = .ok (.aload_n 0, 1) := by decide +kernel
theorem dX7_readGate_6 : decode cX7_readGate 6 = .ok (.if_icmp .ne 9, 3) := by decide +kernel
theorem dX7_readGate_60 : decode cX7_readGate 60 = .ok (.getfield 24, 3) := by decide +kernel
theorem dX7_readGate_63 : decode cX7_readGate 63 = .ok (.iload 4, 2) := by decide +kernel
theorem dX7_readGate_65 : decode cX7_readGate 65 = .ok (.iconst 2, 1) := by decide +kernel
theorem dX7_readGate_66 : decode cX7_readGate 66 = .ok (.iastore, 1) := by decide +kernel
theorem dX7_readGate_67 : decode cX7_readGate 67 = .ok (.aload_n 0, 1) := by decide +kernel
theorem dX7_readGate_68 : decode cX7_readGate 68 = .ok (.getfield 31, 3) := by decide +kernel
theorem dX7_readGate_71 : decode cX7_readGate 71 = .ok (.iload 4, 2) := by decide +kernel
theorem dX7_readGate_73 : decode cX7_readGate 73 = .ok (.iconst 0, 1) := by decide +kernel
theorem dX7_readGate_74 : decode cX7_readGate 74 = .ok (.iastore, 1) := by decide +kernel
theorem dX7_readGate_75 : decode cX7_readGate 75 = .ok (.aload_n 0, 1) := by decide +kernel
theorem dX7_readGate_76 : decode cX7_readGate 76 = .ok (.getfield 34, 3) := by decide +kernel
theorem dX7_readGate_79 : decode cX7_readGate 79 = .ok (.iload 4, 2) := by decide +kernel
theorem dX7_readGate_81 : decode cX7_readGate 81 = .ok (.iconst 1, 1) := by decide +kernel
theorem dX7_readGate_82 : decode cX7_readGate 82 = .ok (.iastore, 1) := by decide +kernel
theorem dX7_readGate_83 : decode cX7_readGate 83 = .ok (.aload_n 0, 1) := by decide +kernel
theorem dX7_readGate_84 : decode cX7_readGate 84 = .ok (.getfield 43, 3) := by decide +kernel
theorem dX7_readGate_87 : decode cX7_readGate 87 = .ok (.aload_n 0, 1) := by decide +kernel
theorem dX7_readGate_88 : decode cX7_readGate 88 = .ok (.getfield 185, 3) := by decide +kernel
theorem dX7_readGate_9 : decode cX7_readGate 9 = .ok (.aload_n 0, 1) := by decide +kernel
theorem dX7_readGate_91 : decode cX7_readGate 91 = .ok (.iload_n 3, 1) := by decide +kernel
theorem dX7_readGate_92 : decode cX7_readGate 92 = .ok (.iastore, 1) := by decide +kernel
theorem dX7_readGate_93 : decode cX7_readGate 93 = .ok (.aload_n 0, 1) := by decide +kernel
theorem dX7_readGate_94 : decode cX7_readGate 94 = .ok (.dup, 1) := by decide +kernel
theorem dX7_readGate_95 : decode cX7_readGate 95 = .ok (.getfield 185, 3) := by decide +kernel
theorem dX7_readGate_98 : decode cX7_readGate 98 = .ok (.iconst 1, 1) := by decide +kernel
theorem dX7_readGate_99 : decode cX7_readGate 99 = .ok (.iadd, 1) := by decide +kernel
theorem dX7_readLine_0 : decode cX7_readLine 0 = .ok (.aload_n 0, 1) := by decide +kernel
theorem dX7_readLine_1 : decode cX7_readLine 1 = .ok (.ldc2_w 159, 3) := by decide +kernel
theorem dX7_readLine_10 : decode cX7_readLine 10 = .ok (.aload_n 0, 1) := by decide +kernel
theorem dX7_readLine_102 : decode cX7_readLine 102 = .ok (.aload_n 0, 1) := by decide +kernel
theorem dX7_readLine_103 : decode cX7_readLine 103 = .ok (.lload_n 1, 1) := by decide +kernel
theorem dX7_readLine_104 : decode cX7_readLine 104 = .ok (.iload_n 3, 1) := by decide +kernel
theorem dX7_readLine_105 : decode cX7_readLine 105 = .ok (.invokevirtual 234, 3) := by decide +kernel
theorem dX7_readLine_108 : decode cX7_readLine 108 = .ok (.goto 7, 3) := by decide +kernel
theorem dX7_readLine_11 : decode cX7_readLine 11 = .ok (.iconst 0, 1) := by decide +kernel
theorem dX7_readLine_111 : decode cX7_readLine 111 = .ok (.aload_n 0, 1) := by decide +kernel
theorem dX7_readLine_112 : decode cX7_readLine 112 = .ok (.invokevirtual 182, 3) := by decide +kernel
theorem dX7_readLine_115 : decode cX7_readLine 115 = .ok (.goto 7, 3) := by decide +kernel
theorem dX7_readLine_118 : decode cX7_readLine 118 = .ok (.aload_n 0, 1) := by decide +kernel
theorem dX7_readLine_119 : decode cX7_readLine 119 = .ok (.invokevirtual 182, 3) := by decide +kernel
theorem dX7_readLine_12 : decode cX7_readLine 12 = .ok (.invokevirtual 224, 3) := by decide +kernel
theorem dX7_readLine_122 : decode cX7_readLine 122 = .ok (.return_, 1) := by decide +kernel
theorem dX7_readLine_15 : decode cX7_readLine 15 = .ok (.goto 107, 3) := by decide +kernel
theorem dX7_readLine_18 : decode cX7_readLine 18 = .ok (.aload_n 0, 1) := by decide +kernel
theorem dX7_readLine_19 : decode cX7_readLine 19 = .ok (.ldc2_w 161, 3) := by decide +kernel
theorem dX7_readLine_22 : decode cX7_readLine 22 = .ok (.invokevirtual 220, 3) := by decide +kernel
theorem dX7_readLine_25 : decode cX7_readLine 25 = .ok (.ifCond .eq 11, 3) := by decide +kernel
theorem dX7_readLine_28 : decode cX7_readLine 28 = .ok (.aload_n 0, 1) := by decide +kernel
theorem dX7_readLine_29 : decode cX7_readLine 29 = .ok (.iconst 1, 1) := by decide +kernel
theorem dX7_readLine_30 : decode cX7_readLine 30 = .ok (.invokevirtual 224, 3) := by decide +kernel
theorem dX7_readLine_33 : decode cX7_readLine 33 = .ok (.goto 89, 3) := by decide +kernel
theorem dX7_readLine_36 : decode cX7_readLine 36 = .ok (.aload_n 0, 1) := by decide +kernel
theorem dX7_readLine_37 : decode cX7_readLine 37 = .ok (.ldc2_w 163, 3) := by decide +kernel
theorem dX7_readLine_4 : decode cX7_readLine 4 = .ok (.invokevirtual 220, 3) := by decide +kernel
theorem dX7_readLine_40 : decode cX7_readLine 40 = .ok (.invokevirtual 220, 3) := by decide +kernel
theorem dX7_readLine_43 : decode cX7_readLine 43 = .ok (.ifCond .eq 10, 3) := by decide +kernel
theorem dX7_readLine_46 : decode cX7_readLine 46 = .ok (.aload_n 0, 1) := by decide +kernel
theorem dX7_readLine_47 : decode cX7_readLine 47 = .ok (.invokevirtual 227, 3) := by decide +kernel
theorem dX7_readLine_50 : decode cX7_readLine 50 = .ok (.goto 72, 3) := by decide +kernel
theorem dX7_readLine_53 : decode cX7_readLine 53 = .ok (.aload_n 0, 1) := by decide +kernel
theorem dX7_readLine_54 : decode cX7_readLine 54 = .ok (.getfield 141, 3) := by decide +kernel
theorem dX7_readLine_57 : decode cX7_readLine 57 = .ok (.iconst 2, 1) := by decide +kernel
theorem dX7_readLine_58 : decode cX7_readLine 58 = .ok (.if_icmp .ne 60, 3) := by decide +kernel
theorem dX7_readLine_61 : decode cX7_readLine 61 = .ok (.aload_n 0, 1) := by decide +kernel
theorem dX7_readLine_62 : decode cX7_readLine 62 = .ok (.getfield 151, 3) := by decide +kernel
theorem dX7_readLine_65 : decode cX7_readLine 65 = .ok (.lstore_n 1, 1) := by decide +kernel
theorem dX7_readLine_66 : decode cX7_readLine 66 = .ok (.aload_n 0, 1) := by decide +kernel
theorem dX7_readLine_67 : decode cX7_readLine 67 = .ok (.getfield 134, 3) := by decide +kernel
theorem dX7_readLine_7 : decode cX7_readLine 7 = .ok (.ifCond .eq 11, 3) := by decide +kernel
theorem dX7_readLine_70 : decode cX7_readLine 70 = .ok (.istore_n 3, 1) := by decide +kernel
theorem dX7_readLine_71 : decode cX7_readLine 71 = .ok (.aload_n 0, 1) := by decide +kernel
theorem dX7_readLine_72 : decode cX7_readLine 72 = .ok (.invokevirtual 179, 3) := by decide +kernel
theorem dX7_readLine_75 : decode cX7_readLine 75 = .ok (.aload_n 0, 1) := by decide +kernel
theorem dX7_readLine_76 : decode cX7_readLine 76 = .ok (.bipush 61, 2) := by decide +kernel
theorem dX7_readLine_78 : decode cX7_readLine 78 = .ok (.invokevirtual 176, 3) := by decide +kernel
theorem dX7_readLine_81 : decode cX7_readLine 81 = .ok (.ifCond .eq 12, 3) := by decide +kernel
theorem dX7_readLine_84 : decode cX7_readLine 84 = .ok (.aload_n 0, 1) := by decide +kernel
theorem dX7_readLine_85 : decode cX7_readLine 85 = .ok (.lload_n 1, 1) := by decide +kernel
theorem dX7_readLine_86 : decode cX7_readLine 86 = .ok (.iload_n 3, 1) := by decide +kernel
theorem dX7_readLine_87 : decode cX7_readLine 87 = .ok (.invokevirtual 230, 3) := by decide +kernel
theorem dX7_readLine_90 : decode cX7_readLine 90 = .ok (.goto 25, 3) := by decide +kernel
theorem dX7_readLine_93 : decode cX7_readLine 93 = .ok (.aload_n 0, 1) := by decide +kernel
theorem dX7_readLine_94 : decode cX7_readLine 94 = .ok (.bipush 60, 2) := by decide +kernel
theorem dX7_readLine_96 : decode cX7_readLine 96 = .ok (.invokevirtual 176, 3) := by decide +kernel
theorem dX7_readLine_99 : decode cX7_readLine 99 = .ok (.ifCond .eq 12, 3) := by decide +kernel
theorem dX7_readRegister_0 : decode cX7_readRegister 0 = .ok (.aload_n 0, 1) := by decide +kernel
theorem dX7_readRegister_1 : decode cX7_readRegister 1 = .ok (.invokevirtual 179, 3) := by decide +kernel
theorem dX7_readRegister_10 : decode cX7_readRegister 10 = .ok (.aload_n 0, 1) := by decide +kernel
theorem dX7_readRegister_100 : decode cX7_readRegister 100 = .ok (.ifCond .eq 9, 3) := by decide +kernel
theorem dX7_readRegister_103 : decode cX7_readRegister 103 = .ok (.aload_n 0, 1) := by decide +kernel
theorem dX7_readRegister_104 : decode cX7_readRegister 104 = .ok (.bipush 59, 2) := by decide +kernel
theorem dX7_readRegister_106 : decode cX7_readRegister 106 = .ok (.invokevirtual 204, 3) := by decide +kernel
theorem dX7_readRegister_109 : decode cX7_readRegister 109 = .ok (.return_, 1) := by decide +kernel
theorem dX7_readRegister_11 : decode cX7_readRegister 11 = .ok (.invokevirtual 191, 3) := by decide +kernel
theorem dX7_readRegister_14 : decode cX7_readRegister 14 = .ok (.ifCond .eq 9, 3) := by decide +kernel
theorem dX7_readRegister_17 : decode cX7_readRegister 17 = .ok (.aload_n 0, 1) := by decide +kernel
theorem dX7_readRegister_18 : decode cX7_readRegister 18 = .ok (.bipush 40, 2) := by decide +kernel
theorem dX7_readRegister_20 : decode cX7_readRegister 20 = .ok (.invokevirtual 204, 3) := by decide +kernel
theorem dX7_readRegister_23 : decode cX7_readRegister 23 = .ok (.aload_n 0, 1) := by decide +kernel
theorem dX7_readRegister_24 : decode cX7_readRegister 24 = .ok (.invokevirtual 191, 3) := by decide +kernel
theorem dX7_readRegister_27 : decode cX7_readRegister 27 = .ok (.ifCond .ne 4, 3) := by decide +kernel
theorem dX7_readRegister_30 : decode cX7_readRegister 30 = .ok (.return_, 1) := by decide +kernel
theorem dX7_readRegister_31 : decode cX7_readRegister 31 = .ok (.aload_n 0, 1) := by decide +kernel
theorem dX7_readRegister_32 : decode cX7_readRegister 32 = .ok (.bipush 12, 2) := by decide +kernel
theorem dX7_readRegister_34 : decode cX7_readRegister 34 = .ok (.iload_n 1, 1) := by decide +kernel
theorem dX7_readRegister_35 : decode cX7_readRegister 35 = .ok (.imul, 1) := by decide +kernel
theorem dX7_readRegister_36 : decode cX7_readRegister 36 = .ok (.invokevirtual 208, 3) := by decide +kernel
theorem dX7_readRegister_39 : decode cX7_readRegister 39 = .ok (.aload_n 0, 1) := by decide +kernel
theorem dX7_readRegister_4 : decode cX7_readRegister 4 = .ok (.aload_n 0, 1) := by decide +kernel
theorem dX7_readRegister_40 : decode cX7_readRegister 40 = .ok (.getfield 31, 3) := by decide +kernel
theorem dX7_readRegister_43 : decode cX7_readRegister 43 = .ok (.iload_n 1, 1) := by decide +kernel
theorem dX7_readRegister_44 : decode cX7_readRegister 44 = .ok (.iconst 1, 1) := by decide +kernel
theorem dX7_readRegister_45 : decode cX7_readRegister 45 = .ok (.iastore, 1) := by decide +kernel
theorem dX7_readRegister_46 : decode cX7_readRegister 46 = .ok (.aload_n 0, 1) := by decide +kernel
theorem dX7_readRegister_47 : decode cX7_readRegister 47 = .ok (.invokevirtual 191, 3) := by decide +kernel
theorem dX7_readRegister_5 : decode cX7_readRegister 5 = .ok (.iconst 3, 1) := by decide +kernel
theorem dX7_readRegister_50 : decode cX7_readRegister 50 = .ok (.ifCond .eq 33, 3) := by decide +kernel
theorem dX7_readRegister_53 : decode cX7_readRegister 53 = .ok (.aload_n 0, 1) := by decide +kernel
theorem dX7_readRegister_54 : decode cX7_readRegister 54 = .ok (.bipush 44, 2) := by decide +kernel
theorem dX7_readRegister_56 : decode cX7_readRegister 56 = .ok (.invokevirtual 176, 3) := by decide +kernel
theorem dX7_readRegister_59 : decode cX7_readRegister 59 = .ok (.ifCond .eq 24, 3) := by decide +kernel
theorem dX7_readRegister_6 : decode cX7_readRegister 6 = .ok (.invokevirtual 201, 3) := by decide +kernel
theorem dX7_readRegister_62 : decode cX7_readRegister 62 = .ok (.aload_n 0, 1) := by decide +kernel
theorem dX7_readRegister_63 : decode cX7_readRegister 63 = .ok (.invokevirtual 179, 3) := by decide +kernel
theorem dX7_readRegister_66 : decode cX7_readRegister 66 = .ok (.aload_n 0, 1) := by decide +kernel
theorem dX7_readRegister_67 : decode cX7_readRegister 67 = .ok (.bipush 12, 2) := by decide +kernel
theorem dX7_readRegister_69 : decode cX7_readRegister 69 = .ok (.iload_n 1, 1) := by decide +kernel
theorem dX7_readRegister_70 : decode cX7_readRegister 70 = .ok (.imul, 1) := by decide +kernel
theorem dX7_readRegister_71 : decode cX7_readRegister 71 = .ok (.iconst 1, 1) := by decide +kernel
theorem dX7_readRegister_72 : decode cX7_readRegister 72 = .ok (.iadd, 1) := by decide +kernel
theorem dX7_readRegister_73 : decode cX7_readRegister 73 = .ok (.invokevirtual 208, 3) := by decide +kernel
theorem dX7_readRegister_76 : decode cX7_readRegister 76 = .ok (.aload_n 0, 1) := by decide +kernel
theorem dX7_readRegister_77 : decode cX7_readRegister 77 = .ok (.getfield 31, 3) := by decide +kernel
theorem dX7_readRegister_80 : decode cX7_readRegister 80 = .ok (.iload_n 1, 1) := by decide +kernel
theorem dX7_readRegister_81 : decode cX7_readRegister 81 = .ok (.iconst 2, 1) := by decide +kernel
theorem dX7_readRegister_82 : decode cX7_readRegister 82 = .ok (.iastore, 1) := by decide +kernel
theorem dX7_readRegister_83 : decode cX7_readRegister 83 = .ok (.aload_n 0, 1) := by decide +kernel
theorem dX7_readRegister_84 : decode cX7_readRegister 84 = .ok (.invokevirtual 191, 3) := by decide +kernel
theorem dX7_readRegister_87 : decode cX7_readRegister 87 = .ok (.ifCond .eq 9, 3) := by decide +kernel
theorem dX7_readRegister_9 : decode cX7_readRegister 9 = .ok (.istore_n 1, 1) := by decide +kernel
theorem dX7_readRegister_90 : decode cX7_readRegister 90 = .ok (.aload_n 0, 1) := by decide +kernel
theorem dX7_readRegister_91 : decode cX7_readRegister 91 = .ok (.bipush 41, 2) := by decide +kernel
theorem dX7_readRegister_93 : decode cX7_readRegister 93 = .ok (.invokevirtual 204, 3) := by decide +kernel
theorem dX7_readRegister_96 : decode cX7_readRegister 96 = .ok (.aload_n 0, 1) := by decide +kernel
theorem dX7_readRegister_97 : decode cX7_readRegister 97 = .ok (.invokevirtual 191, 3) := by decide +kernel
theorem dX7_read_0 : decode cX7_read 0 = .ok (.aload_n 0, 1) := by decide +kernel
theorem dX7_read_1 : decode cX7_read 1 = .ok (.iconst 0, 1) := by decide +kernel
theorem dX7_read_10 : decode cX7_read 10 = .ok (.aload_n 0, 1) := by decide +kernel
theorem dX7_read_100 : decode cX7_read 100 = .ok (.invokevirtual 252, 3) := by decide +kernel
theorem dX7_read_103 : decode cX7_read 103 = .ok (.goto (-18), 3) := by decide +kernel
theorem dX7_read_106 : decode cX7_read 106 = .ok (.aload_n 0, 1) := by decide +kernel
theorem dX7_read_107 : decode cX7_read 107 = .ok (.invokevirtual 191, 3) := by decide +kernel
theorem dX7_read_11 : decode cX7_read 11 = .ok (.aload_n 0, 1) := by decide +kernel
theorem dX7_read_110 : decode cX7_read 110 = .ok (.ifCond .eq 7, 3) := by decide +kernel
theorem dX7_read_113 : decode cX7_read 113 = .ok (.aload_n 0, 1) := by decide +kernel
theorem dX7_read_114 : decode cX7_read 114 = .ok (.invokevirtual 255, 3) := by decide +kernel
theorem dX7_read_117 : decode cX7_read 117 = .ok (.aload_n 0, 1) := by decide +kernel
theorem dX7_read_118 : decode cX7_read 118 = .ok (.invokevirtual 191, 3) := by decide +kernel
theorem dX7_read_12 : decode cX7_read 12 = .ok (.getfield 249, 3) := by decide +kernel
theorem dX7_read_121 : decode cX7_read 121 = .ok (.ifCond .eq 7, 3) := by decide +kernel
theorem dX7_read_124 : decode cX7_read 124 = .ok (.aload_n 0, 1) := by decide +kernel
theorem dX7_read_125 : decode cX7_read 125 = .ok (.invokevirtual 258, 3) := by decide +kernel
theorem dX7_read_128 : decode cX7_read 128 = .ok (.aload_n 0, 1) := by decide +kernel
theorem dX7_read_129 : decode cX7_read 129 = .ok (.invokevirtual 191, 3) := by decide +kernel
theorem dX7_read_132 : decode cX7_read 132 = .ok (.ifCond .ne 15, 3) := by decide +kernel
theorem dX7_read_135 : decode cX7_read 135 = .ok (.aload_n 0, 1) := by decide +kernel
theorem dX7_read_136 : decode cX7_read 136 = .ok (.iconst 1, 1) := by decide +kernel
theorem dX7_read_137 : decode cX7_read 137 = .ok (.aload_n 0, 1) := by decide +kernel
theorem dX7_read_138 : decode cX7_read 138 = .ok (.getfield 188, 3) := by decide +kernel
theorem dX7_read_141 : decode cX7_read 141 = .ok (.isub, 1) := by decide +kernel
theorem dX7_read_142 : decode cX7_read 142 = .ok (.putfield 188, 3) := by decide +kernel
theorem dX7_read_145 : decode cX7_read 145 = .ok (.iconst (-1), 1) := by decide +kernel
theorem dX7_read_146 : decode cX7_read 146 = .ok (.ireturn, 1) := by decide +kernel
theorem dX7_read_147 : decode cX7_read 147 = .ok (.aload_n 0, 1) := by decide +kernel
theorem dX7_read_148 : decode cX7_read 148 = .ok (.aload_n 0, 1) := by decide +kernel
theorem dX7_read_149 : decode cX7_read 149 = .ok (.getfield 185, 3) := by decide +kernel
theorem dX7_read_15 : decode cX7_read 15 = .ok (.putfield 107, 3) := by decide +kernel
theorem dX7_read_152 : decode cX7_read 152 = .ok (.putfield 261, 3) := by decide +kernel
theorem dX7_read_155 : decode cX7_read 155 = .ok (.aload_n 0, 1) := by decide +kernel
theorem dX7_read_156 : decode cX7_read 156 = .ok (.iconst 0, 1) := by decide +kernel
theorem dX7_read_157 : decode cX7_read 157 = .ok (.putfield 264, 3) := by decide +kernel
theorem dX7_read_160 : decode cX7_read 160 = .ok (.aload_n 0, 1) := by decide +kernel
theorem dX7_read_161 : decode cX7_read 161 = .ok (.iconst 0, 1) := by decide +kernel
theorem dX7_read_162 : decode cX7_read 162 = .ok (.putfield 267, 3) := by decide +kernel
theorem dX7_read_165 : decode cX7_read 165 = .ok (.iconst 0, 1) := by decide +kernel
theorem dX7_read_166 : decode cX7_read 166 = .ok (.istore_n 1, 1) := by decide +kernel
theorem dX7_read_167 : decode cX7_read 167 = .ok (.iload_n 1, 1) := by decide +kernel
theorem dX7_read_168 : decode cX7_read 168 = .ok (.aload_n 0, 1) := by decide +kernel
theorem dX7_read_169 : decode cX7_read 169 = .ok (.getfield 261, 3) := by decide +kernel
theorem dX7_read_172 : decode cX7_read 172 = .ok (.if_icmp .ge 39, 3) := by decide +kernel
theorem dX7_read_175 : decode cX7_read 175 = .ok (.aload_n 0, 1) := by decide +kernel
theorem dX7_read_176 : decode cX7_read 176 = .ok (.dup, 1) := by decide +kernel
theorem dX7_read_177 : decode cX7_read 177 = .ok (.getfield 264, 3) := by decide +kernel
theorem dX7_read_18 : decode cX7_read 18 = .ok (.iconst 0, 1) := by decide +kernel
theorem dX7_read_180 : decode cX7_read 180 = .ok (.aload_n 0, 1) := by decide +kernel
theorem dX7_read_181 : decode cX7_read 181 = .ok (.iload_n 1, 1) := by decide +kernel
theorem dX7_read_182 : decode cX7_read 182 = .ok (.invokevirtual 271, 3) := by decide +kernel
theorem dX7_read_185 : decode cX7_read 185 = .ok (.iconst 3, 1) := by decide +kernel
theorem dX7_read_186 : decode cX7_read 186 = .ok (.if_icmp .ne 7, 3) := by decide +kernel
theorem dX7_read_189 : decode cX7_read 189 = .ok (.iconst 1, 1) := by decide +kernel
theorem dX7_read_19 : decode cX7_read 19 = .ok (.istore_n 1, 1) := by decide +kernel
theorem dX7_read_190 : decode cX7_read 190 = .ok (.goto 4, 3) := by decide +kernel
theorem dX7_read_193 : decode cX7_read 193 = .ok (.iconst 0, 1) := by decide +kernel
theorem dX7_read_194 : decode cX7_read 194 = .ok (.iadd, 1) := by decide +kernel
theorem dX7_read_195 : decode cX7_read 195 = .ok (.putfield 264, 3) := by decide +kernel
theorem dX7_read_198 : decode cX7_read 198 = .ok (.aload_n 0, 1) := by decide +kernel
theorem dX7_read_199 : decode cX7_read 199 = .ok (.getfield 71, 3) := by decide +kernel
theorem dX7_read_2 : decode cX7_read 2 = .ok (.putfield 110, 3) := by decide +kernel
theorem dX7_read_20 : decode cX7_read 20 = .ok (.iload_n 1, 1) := by decide +kernel
theorem dX7_read_202 : decode cX7_read 202 = .ok (.iload_n 1, 1) := by decide +kernel
theorem dX7_read_203 : decode cX7_read 203 = .ok (.iconst 2, 1) := by decide +kernel
theorem dX7_read_204 : decode cX7_read 204 = .ok (.iastore, 1) := by decide +kernel
theorem dX7_read_205 : decode cX7_read 205 = .ok (.iinc 1 1, 3) := by decide +kernel
theorem dX7_read_208 : decode cX7_read 208 = .ok (.goto (-41), 3) := by decide +kernel
theorem dX7_read_21 : decode cX7_read 21 = .ok (.aload_n 0, 1) := by decide +kernel
theorem dX7_read_211 : decode cX7_read 211 = .ok (.aload_n 0, 1) := by decide +kernel
theorem dX7_read_212 : decode cX7_read 212 = .ok (.invokevirtual 274, 3) := by decide +kernel
theorem dX7_read_215 : decode cX7_read 215 = .ok (.aload_n 0, 1) := by decide +kernel
theorem dX7_read_216 : decode cX7_read 216 = .ok (.getfield 261, 3) := by decide +kernel
theorem dX7_read_219 : decode cX7_read 219 = .ok (.ireturn, 1) := by decide +kernel
theorem dX7_read_22 : decode cX7_read 22 = .ok (.getfield 107, 3) := by decide +kernel
theorem dX7_read_25 : decode cX7_read 25 = .ok (.if_icmp .ge 21, 3) := by decide +kernel
theorem dX7_read_28 : decode cX7_read 28 = .ok (.aload_n 0, 1) := by decide +kernel
theorem dX7_read_29 : decode cX7_read 29 = .ok (.getfield 13, 3) := by decide +kernel
theorem dX7_read_32 : decode cX7_read 32 = .ok (.iload_n 1, 1) := by decide +kernel
theorem dX7_read_33 : decode cX7_read 33 = .ok (.aload_n 0, 1) := by decide +kernel
theorem dX7_read_34 : decode cX7_read 34 = .ok (.getfield 7, 3) := by decide +kernel
theorem dX7_read_37 : decode cX7_read 37 = .ok (.iload_n 1, 1) := by decide +kernel
theorem dX7_read_38 : decode cX7_read 38 = .ok (.baload, 1) := by decide +kernel
theorem dX7_read_39 : decode cX7_read 39 = .ok (.bastore, 1) := by decide +kernel
theorem dX7_read_40 : decode cX7_read 40 = .ok (.iinc 1 1, 3) := by decide +kernel
theorem dX7_read_43 : decode cX7_read 43 = .ok (.goto (-23), 3) := by decide +kernel
theorem dX7_read_46 : decode cX7_read 46 = .ok (.aload_n 0, 1) := by decide +kernel
theorem dX7_read_47 : decode cX7_read 47 = .ok (.iconst 0, 1) := by decide +kernel
theorem dX7_read_48 : decode cX7_read 48 = .ok (.putfield 249, 3) := by decide +kernel
theorem dX7_read_5 : decode cX7_read 5 = .ok (.aload_n 0, 1) := by decide +kernel
theorem dX7_read_51 : decode cX7_read 51 = .ok (.aload_n 0, 1) := by decide +kernel
theorem dX7_read_52 : decode cX7_read 52 = .ok (.iconst 0, 1) := by decide +kernel
theorem dX7_read_53 : decode cX7_read 53 = .ok (.putfield 131, 3) := by decide +kernel
theorem dX7_read_56 : decode cX7_read 56 = .ok (.aload_n 0, 1) := by decide +kernel
theorem dX7_read_57 : decode cX7_read 57 = .ok (.iconst 1, 1) := by decide +kernel
theorem dX7_read_58 : decode cX7_read 58 = .ok (.aload_n 0, 1) := by decide +kernel
theorem dX7_read_59 : decode cX7_read 59 = .ok (.getfield 188, 3) := by decide +kernel
theorem dX7_read_6 : decode cX7_read 6 = .ok (.iconst (-1), 1) := by decide +kernel
theorem dX7_read_62 : decode cX7_read 62 = .ok (.isub, 1) := by decide +kernel
theorem dX7_read_63 : decode cX7_read 63 = .ok (.putfield 188, 3) := by decide +kernel
theorem dX7_read_66 : decode cX7_read 66 = .ok (.aload_n 0, 1) := by decide +kernel
theorem dX7_read_67 : decode cX7_read 67 = .ok (.iconst 0, 1) := by decide +kernel
theorem dX7_read_68 : decode cX7_read 68 = .ok (.putfield 185, 3) := by decide +kernel
theorem dX7_read_7 : decode cX7_read 7 = .ok (.putfield 16, 3) := by decide +kernel
theorem dX7_read_71 : decode cX7_read 71 = .ok (.aload_n 0, 1) := by decide +kernel
theorem dX7_read_72 : decode cX7_read 72 = .ok (.iconst 0, 1) := by decide +kernel
theorem dX7_read_73 : decode cX7_read 73 = .ok (.putfield 198, 3) := by decide +kernel
theorem dX7_read_76 : decode cX7_read 76 = .ok (.aload_n 0, 1) := by decide +kernel
theorem dX7_read_77 : decode cX7_read 77 = .ok (.iconst 0, 1) := by decide +kernel
theorem dX7_read_78 : decode cX7_read 78 = .ok (.putfield 217, 3) := by decide +kernel
theorem dX7_read_81 : decode cX7_read 81 = .ok (.aload_n 0, 1) := by decide +kernel
theorem dX7_read_82 : decode cX7_read 82 = .ok (.invokevirtual 179, 3) := by decide +kernel
theorem dX7_read_85 : decode cX7_read 85 = .ok (.aload_n 0, 1) := by decide +kernel
theorem dX7_read_86 : decode cX7_read 86 = .ok (.invokevirtual 191, 3) := by decide +kernel
theorem dX7_read_89 : decode cX7_read 89 = .ok (.ifCond .eq 17, 3) := by decide +kernel
theorem dX7_read_92 : decode cX7_read 92 = .ok (.aload_n 0, 1) := by decide +kernel
theorem dX7_read_93 : decode cX7_read 93 = .ok (.getfield 141, 3) := by decide +kernel
theorem dX7_read_96 : decode cX7_read 96 = .ok (.ifCond .eq 10, 3) := by decide +kernel
theorem dX7_read_99 : decode cX7_read 99 = .ok (.aload_n 0, 1) := by decide +kernel
theorem dX7_resolve_0 : decode cX7_resolve 0 = .ok (.iconst 0, 1) := by decide +kernel
theorem dX7_resolve_1 : decode cX7_resolve 1 = .ok (.istore_n 1, 1) := by decide +kernel
theorem dX7_resolve_10 : decode cX7_resolve 10 = .ok (.aload_n 0, 1) := by decide +kernel
theorem dX7_resolve_100 : decode cX7_resolve 100 = .ok (.iaload, 1) := by decide +kernel
theorem dX7_resolve_101 : decode cX7_resolve 101 = .ok (.iconst (-1), 1) := by decide +kernel
theorem dX7_resolve_102 : decode cX7_resolve 102 = .ok (.if_icmp .eq 32, 3) := by decide +kernel
theorem dX7_resolve_105 : decode cX7_resolve 105 = .ok (.aload_n 0, 1) := by decide +kernel
theorem dX7_resolve_106 : decode cX7_resolve 106 = .ok (.iload_n 1, 1) := by decide +kernel
theorem dX7_resolve_107 : decode cX7_resolve 107 = .ok (.invokevirtual 237, 3) := by decide +kernel
theorem dX7_resolve_11 : decode cX7_resolve 11 = .ok (.invokevirtual 191, 3) := by decide +kernel
theorem dX7_resolve_110 : decode cX7_resolve 110 = .ok (.ifCond .ne 24, 3) := by decide +kernel
theorem dX7_resolve_113 : decode cX7_resolve 113 = .ok (.aload_n 0, 1) := by decide +kernel
theorem dX7_resolve_114 : decode cX7_resolve 114 = .ok (.getfield 37, 3) := by decide +kernel
theorem dX7_resolve_117 : decode cX7_resolve 117 = .ok (.aload_n 0, 1) := by decide +kernel
theorem dX7_resolve_118 : decode cX7_resolve 118 = .ok (.getfield 56, 3) := by decide +kernel
theorem dX7_resolve_121 : decode cX7_resolve 121 = .ok (.iload_n 1, 1) := by decide +kernel
theorem dX7_resolve_122 : decode cX7_resolve 122 = .ok (.iaload, 1) := by decide +kernel
theorem dX7_resolve_123 : decode cX7_resolve 123 = .ok (.aload_n 0, 1) := by decide +kernel
theorem dX7_resolve_124 : decode cX7_resolve 124 = .ok (.aload_n 0, 1) := by decide +kernel
theorem dX7_resolve_125 : decode cX7_resolve 125 = .ok (.getfield 50, 3) := by decide +kernel
theorem dX7_resolve_128 : decode cX7_resolve 128 = .ok (.iload_n 1, 1) := by decide +kernel
theorem dX7_resolve_129 : decode cX7_resolve 129 = .ok (.laload, 1) := by decide +kernel
theorem dX7_resolve_130 : decode cX7_resolve 130 = .ok (.invokevirtual 195, 3) := by decide +kernel
theorem dX7_resolve_133 : decode cX7_resolve 133 = .ok (.iastore, 1) := by decide +kernel
theorem dX7_resolve_134 : decode cX7_resolve 134 = .ok (.iinc 1 1, 3) := by decide +kernel
theorem dX7_resolve_137 : decode cX7_resolve 137 = .ok (.goto (-50), 3) := by decide +kernel
theorem dX7_resolve_14 : decode cX7_resolve 14 = .ok (.ifCond .eq 63, 3) := by decide +kernel
theorem dX7_resolve_140 : decode cX7_resolve 140 = .ok (.iconst 0, 1) := by decide +kernel
theorem dX7_resolve_141 : decode cX7_resolve 141 = .ok (.istore_n 1, 1) := by decide +kernel
theorem dX7_resolve_142 : decode cX7_resolve 142 = .ok (.iload_n 1, 1) := by decide +kernel
theorem dX7_resolve_143 : decode cX7_resolve 143 = .ok (.aload_n 0, 1) := by decide +kernel
theorem dX7_resolve_144 : decode cX7_resolve 144 = .ok (.getfield 217, 3) := by decide +kernel
theorem dX7_resolve_147 : decode cX7_resolve 147 = .ok (.if_icmp .ge 132, 3) := by decide +kernel
theorem dX7_resolve_150 : decode cX7_resolve 150 = .ok (.bipush 60, 2) := by decide +kernel
theorem dX7_resolve_152 : decode cX7_resolve 152 = .ok (.aload_n 0, 1) := by decide +kernel
theorem dX7_resolve_153 : decode cX7_resolve 153 = .ok (.getfield 188, 3) := by decide +kernel
theorem dX7_resolve_156 : decode cX7_resolve 156 = .ok (.imul, 1) := by decide +kernel
theorem dX7_resolve_157 : decode cX7_resolve 157 = .ok (.aload_n 0, 1) := by decide +kernel
theorem dX7_resolve_158 : decode cX7_resolve 158 = .ok (.aload_n 0, 1) := by decide +kernel
theorem dX7_resolve_159 : decode cX7_resolve 159 = .ok (.getfield 59, 3) := by decide +kernel
theorem dX7_resolve_162 : decode cX7_resolve 162 = .ok (.iload_n 1, 1) := by decide +kernel
theorem dX7_resolve_163 : decode cX7_resolve 163 = .ok (.laload, 1) := by decide +kernel
theorem dX7_resolve_164 : decode cX7_resolve 164 = .ok (.invokevirtual 195, 3) := by decide +kernel
theorem dX7_resolve_167 : decode cX7_resolve 167 = .ok (.iadd, 1) := by decide +kernel
theorem dX7_resolve_168 : decode cX7_resolve 168 = .ok (.istore_n 2, 1) := by decide +kernel
theorem dX7_resolve_169 : decode cX7_resolve 169 = .ok (.aload_n 0, 1) := by decide +kernel
theorem dX7_resolve_17 : decode cX7_resolve 17 = .ok (.aload_n 0, 1) := by decide +kernel
theorem dX7_resolve_170 : decode cX7_resolve 170 = .ok (.getfield 46, 3) := by decide +kernel
theorem dX7_resolve_173 : decode cX7_resolve 173 = .ok (.bipush 6, 2) := by decide +kernel
theorem dX7_resolve_175 : decode cX7_resolve 175 = .ok (.iload_n 2, 1) := by decide +kernel
theorem dX7_resolve_176 : decode cX7_resolve 176 = .ok (.imul, 1) := by decide +kernel
theorem dX7_resolve_177 : decode cX7_resolve 177 = .ok (.aload_n 0, 1) := by decide +kernel
theorem dX7_resolve_178 : decode cX7_resolve 178 = .ok (.getfield 31, 3) := by decide +kernel
theorem dX7_resolve_18 : decode cX7_resolve 18 = .ok (.aload_n 0, 1) := by decide +kernel
theorem dX7_resolve_181 : decode cX7_resolve 181 = .ok (.iload_n 2, 1) := by decide +kernel
theorem dX7_resolve_182 : decode cX7_resolve 182 = .ok (.iaload, 1) := by decide +kernel
theorem dX7_resolve_183 : decode cX7_resolve 183 = .ok (.iadd, 1) := by decide +kernel
theorem dX7_resolve_184 : decode cX7_resolve 184 = .ok (.aload_n 0, 1) := by decide +kernel
theorem dX7_resolve_185 : decode cX7_resolve 185 = .ok (.getfield 65, 3) := by decide +kernel
theorem dX7_resolve_188 : decode cX7_resolve 188 = .ok (.iload_n 1, 1) := by decide +kernel
theorem dX7_resolve_189 : decode cX7_resolve 189 = .ok (.baload, 1) := by decide +kernel
theorem dX7_resolve_19 : decode cX7_resolve 19 = .ok (.getfield 50, 3) := by decide +kernel
theorem dX7_resolve_190 : decode cX7_resolve 190 = .ok (.bastore, 1) := by decide +kernel
theorem dX7_resolve_191 : decode cX7_resolve 191 = .ok (.aload_n 0, 1) := by decide +kernel
theorem dX7_resolve_192 : decode cX7_resolve 192 = .ok (.getfield 37, 3) := by decide +kernel
theorem dX7_resolve_195 : decode cX7_resolve 195 = .ok (.bipush 12, 2) := by decide +kernel
theorem dX7_resolve_197 : decode cX7_resolve 197 = .ok (.iload_n 2, 1) := by decide +kernel
theorem dX7_resolve_198 : decode cX7_resolve 198 = .ok (.imul, 1) := by decide +kernel
theorem dX7_resolve_199 : decode cX7_resolve 199 = .ok (.iconst 2, 1) := by decide +kernel
theorem dX7_resolve_2 : decode cX7_resolve 2 = .ok (.iload_n 1, 1) := by decide +kernel
theorem dX7_resolve_200 : decode cX7_resolve 200 = .ok (.aload_n 0, 1) := by decide +kernel
theorem dX7_resolve_201 : decode cX7_resolve 201 = .ok (.getfield 31, 3) := by decide +kernel
theorem dX7_resolve_204 : decode cX7_resolve 204 = .ok (.iload_n 2, 1) := by decide +kernel
theorem dX7_resolve_205 : decode cX7_resolve 205 = .ok (.iaload, 1) := by decide +kernel
theorem dX7_resolve_206 : decode cX7_resolve 206 = .ok (.imul, 1) := by decide +kernel
theorem dX7_resolve_207 : decode cX7_resolve 207 = .ok (.iadd, 1) := by decide +kernel
theorem dX7_resolve_208 : decode cX7_resolve 208 = .ok (.aload_n 0, 1) := by decide +kernel
theorem dX7_resolve_209 : decode cX7_resolve 209 = .ok (.aload_n 0, 1) := by decide +kernel
theorem dX7_resolve_210 : decode cX7_resolve 210 = .ok (.getfield 50, 3) := by decide +kernel
theorem dX7_resolve_213 : decode cX7_resolve 213 = .ok (.aload_n 0, 1) := by decide +kernel
theorem dX7_resolve_214 : decode cX7_resolve 214 = .ok (.getfield 62, 3) := by decide +kernel
theorem dX7_resolve_217 : decode cX7_resolve 217 = .ok (.iload_n 1, 1) := by decide +kernel
theorem dX7_resolve_218 : decode cX7_resolve 218 = .ok (.iaload, 1) := by decide +kernel
theorem dX7_resolve_219 : decode cX7_resolve 219 = .ok (.iconst 1, 1) := by decide +kernel
theorem dX7_resolve_22 : decode cX7_resolve 22 = .ok (.iload_n 1, 1) := by decide +kernel
theorem dX7_resolve_220 : decode cX7_resolve 220 = .ok (.iadd, 1) := by decide +kernel
theorem dX7_resolve_221 : decode cX7_resolve 221 = .ok (.laload, 1) := by decide +kernel
theorem dX7_resolve_222 : decode cX7_resolve 222 = .ok (.invokevirtual 195, 3) := by decide +kernel
theorem dX7_resolve_225 : decode cX7_resolve 225 = .ok (.iastore, 1) := by decide +kernel
theorem dX7_resolve_226 : decode cX7_resolve 226 = .ok (.aload_n 0, 1) := by decide +kernel
theorem dX7_resolve_227 : decode cX7_resolve 227 = .ok (.getfield 37, 3) := by decide +kernel
theorem dX7_resolve_23 : decode cX7_resolve 23 = .ok (.laload, 1) := by decide +kernel
theorem dX7_resolve_230 : decode cX7_resolve 230 = .ok (.bipush 12, 2) := by decide +kernel
theorem dX7_resolve_232 : decode cX7_resolve 232 = .ok (.iload_n 2, 1) := by decide +kernel
theorem dX7_resolve_233 : decode cX7_resolve 233 = .ok (.imul, 1) := by decide +kernel
theorem dX7_resolve_234 : decode cX7_resolve 234 = .ok (.iconst 2, 1) := by decide +kernel
theorem dX7_resolve_235 : decode cX7_resolve 235 = .ok (.aload_n 0, 1) := by decide +kernel
theorem dX7_resolve_236 : decode cX7_resolve 236 = .ok (.getfield 31, 3) := by decide +kernel
theorem dX7_resolve_239 : decode cX7_resolve 239 = .ok (.iload_n 2, 1) := by decide +kernel
theorem dX7_resolve_24 : decode cX7_resolve 24 = .ok (.invokevirtual 195, 3) := by decide +kernel
theorem dX7_resolve_240 : decode cX7_resolve 240 = .ok (.iaload, 1) := by decide +kernel
theorem dX7_resolve_241 : decode cX7_resolve 241 = .ok (.imul, 1) := by decide +kernel
theorem dX7_resolve_242 : decode cX7_resolve 242 = .ok (.iadd, 1) := by decide +kernel
theorem dX7_resolve_243 : decode cX7_resolve 243 = .ok (.iconst 1, 1) := by decide +kernel
theorem dX7_resolve_244 : decode cX7_resolve 244 = .ok (.iadd, 1) := by decide +kernel
theorem dX7_resolve_245 : decode cX7_resolve 245 = .ok (.aload_n 0, 1) := by decide +kernel
theorem dX7_resolve_246 : decode cX7_resolve 246 = .ok (.aload_n 0, 1) := by decide +kernel
theorem dX7_resolve_247 : decode cX7_resolve 247 = .ok (.getfield 50, 3) := by decide +kernel
theorem dX7_resolve_250 : decode cX7_resolve 250 = .ok (.aload_n 0, 1) := by decide +kernel
theorem dX7_resolve_251 : decode cX7_resolve 251 = .ok (.getfield 62, 3) := by decide +kernel
theorem dX7_resolve_254 : decode cX7_resolve 254 = .ok (.iload_n 1, 1) := by decide +kernel
theorem dX7_resolve_255 : decode cX7_resolve 255 = .ok (.iaload, 1) := by decide +kernel
theorem dX7_resolve_256 : decode cX7_resolve 256 = .ok (.iconst 2, 1) := by decide +kernel
theorem dX7_resolve_257 : decode cX7_resolve 257 = .ok (.iadd, 1) := by decide +kernel
theorem dX7_resolve_258 : decode cX7_resolve 258 = .ok (.laload, 1) := by decide +kernel
theorem dX7_resolve_259 : decode cX7_resolve 259 = .ok (.invokevirtual 195, 3) := by decide +kernel
theorem dX7_resolve_262 : decode cX7_resolve 262 = .ok (.iastore, 1) := by decide +kernel
theorem dX7_resolve_263 : decode cX7_resolve 263 = .ok (.aload_n 0, 1) := by decide +kernel
theorem dX7_resolve_264 : decode cX7_resolve 264 = .ok (.getfield 31, 3) := by decide +kernel
theorem dX7_resolve_267 : decode cX7_resolve 267 = .ok (.iload_n 2, 1) := by decide +kernel
theorem dX7_resolve_268 : decode cX7_resolve 268 = .ok (.dup2, 1) := by decide +kernel
theorem dX7_resolve_269 : decode cX7_resolve 269 = .ok (.iaload, 1) := by decide +kernel
theorem dX7_resolve_27 : decode cX7_resolve 27 = .ok (.istore_n 2, 1) := by decide +kernel
theorem dX7_resolve_270 : decode cX7_resolve 270 = .ok (.iconst 1, 1) := by decide +kernel
theorem dX7_resolve_271 : decode cX7_resolve 271 = .ok (.iadd, 1) := by decide +kernel
theorem dX7_resolve_272 : decode cX7_resolve 272 = .ok (.iastore, 1) := by decide +kernel
theorem dX7_resolve_273 : decode cX7_resolve 273 = .ok (.iinc 1 1, 3) := by decide +kernel
theorem dX7_resolve_276 : decode cX7_resolve 276 = .ok (.goto (-134), 3) := by decide +kernel
theorem dX7_resolve_279 : decode cX7_resolve 279 = .ok (.return_, 1) := by decide +kernel
theorem dX7_resolve_28 : decode cX7_resolve 28 = .ok (.iload_n 2, 1) := by decide +kernel
theorem dX7_resolve_29 : decode cX7_resolve 29 = .ok (.ifCond .lt 31, 3) := by decide +kernel
theorem dX7_resolve_3 : decode cX7_resolve 3 = .ok (.aload_n 0, 1) := by decide +kernel
theorem dX7_resolve_32 : decode cX7_resolve 32 = .ok (.aload_n 0, 1) := by decide +kernel
theorem dX7_resolve_33 : decode cX7_resolve 33 = .ok (.getfield 56, 3) := by decide +kernel
theorem dX7_resolve_36 : decode cX7_resolve 36 = .ok (.iload_n 1, 1) := by decide +kernel
theorem dX7_resolve_37 : decode cX7_resolve 37 = .ok (.iaload, 1) := by decide +kernel
theorem dX7_resolve_38 : decode cX7_resolve 38 = .ok (.iconst (-1), 1) := by decide +kernel
theorem dX7_resolve_39 : decode cX7_resolve 39 = .ok (.if_icmp .ne 32, 3) := by decide +kernel
theorem dX7_resolve_4 : decode cX7_resolve 4 = .ok (.getfield 198, 3) := by decide +kernel
theorem dX7_resolve_42 : decode cX7_resolve 42 = .ok (.aload_n 0, 1) := by decide +kernel
theorem dX7_resolve_43 : decode cX7_resolve 43 = .ok (.getfield 24, 3) := by decide +kernel
theorem dX7_resolve_46 : decode cX7_resolve 46 = .ok (.bipush 60, 2) := by decide +kernel
theorem dX7_resolve_48 : decode cX7_resolve 48 = .ok (.aload_n 0, 1) := by decide +kernel
theorem dX7_resolve_49 : decode cX7_resolve 49 = .ok (.getfield 188, 3) := by decide +kernel
theorem dX7_resolve_52 : decode cX7_resolve 52 = .ok (.imul, 1) := by decide +kernel
theorem dX7_resolve_53 : decode cX7_resolve 53 = .ok (.iload_n 2, 1) := by decide +kernel
theorem dX7_resolve_54 : decode cX7_resolve 54 = .ok (.iadd, 1) := by decide +kernel
theorem dX7_resolve_55 : decode cX7_resolve 55 = .ok (.iaload, 1) := by decide +kernel
theorem dX7_resolve_56 : decode cX7_resolve 56 = .ok (.iconst 1, 1) := by decide +kernel
theorem dX7_resolve_57 : decode cX7_resolve 57 = .ok (.if_icmp .eq 14, 3) := by decide +kernel
theorem dX7_resolve_60 : decode cX7_resolve 60 = .ok (.aload_n 0, 1) := by decide +kernel
theorem dX7_resolve_61 : decode cX7_resolve 61 = .ok (.iconst 4, 1) := by decide +kernel
theorem dX7_resolve_62 : decode cX7_resolve 62 = .ok (.aload_n 0, 1) := by decide +kernel
theorem dX7_resolve_63 : decode cX7_resolve 63 = .ok (.getfield 53, 3) := by decide +kernel
theorem dX7_resolve_66 : decode cX7_resolve 66 = .ok (.iload_n 1, 1) := by decide +kernel
theorem dX7_resolve_67 : decode cX7_resolve 67 = .ok (.iaload, 1) := by decide +kernel
theorem dX7_resolve_68 : decode cX7_resolve 68 = .ok (.invokevirtual 172, 3) := by decide +kernel
theorem dX7_resolve_7 : decode cX7_resolve 7 = .ok (.if_icmp .ge 70, 3) := by decide +kernel
theorem dX7_resolve_71 : decode cX7_resolve 71 = .ok (.iinc 1 1, 3) := by decide +kernel
theorem dX7_resolve_74 : decode cX7_resolve 74 = .ok (.goto (-72), 3) := by decide +kernel
theorem dX7_resolve_77 : decode cX7_resolve 77 = .ok (.aload_n 0, 1) := by decide +kernel
theorem dX7_resolve_78 : decode cX7_resolve 78 = .ok (.invokevirtual 191, 3) := by decide +kernel
theorem dX7_resolve_81 : decode cX7_resolve 81 = .ok (.ifCond .ne 4, 3) := by decide +kernel
theorem dX7_resolve_84 : decode cX7_resolve 84 = .ok (.return_, 1) := by decide +kernel
theorem dX7_resolve_85 : decode cX7_resolve 85 = .ok (.iconst 0, 1) := by decide +kernel
theorem dX7_resolve_86 : decode cX7_resolve 86 = .ok (.istore_n 1, 1) := by decide +kernel
theorem dX7_resolve_87 : decode cX7_resolve 87 = .ok (.iload_n 1, 1) := by decide +kernel
theorem dX7_resolve_88 : decode cX7_resolve 88 = .ok (.aload_n 0, 1) := by decide +kernel
theorem dX7_resolve_89 : decode cX7_resolve 89 = .ok (.getfield 198, 3) := by decide +kernel
theorem dX7_resolve_92 : decode cX7_resolve 92 = .ok (.if_icmp .ge 48, 3) := by decide +kernel
theorem dX7_resolve_95 : decode cX7_resolve 95 = .ok (.aload_n 0, 1) := by decide +kernel
theorem dX7_resolve_96 : decode cX7_resolve 96 = .ok (.getfield 56, 3) := by decide +kernel
theorem dX7_resolve_99 : decode cX7_resolve 99 = .ok (.iload_n 1, 1) := by decide +kernel
theorem dX7_run_0 : decode cX7_run 0 = .ok (.aload_n 0, 1) := by decide +kernel
theorem dX7_run_1 : decode cX7_run 1 = .ok (.getfield 267, 3) := by decide +kernel
theorem dX7_run_100 : decode cX7_run 100 = .ok (.dup, 1) := by decide +kernel
theorem dX7_run_101 : decode cX7_run 101 = .ok (.getfield 319, 3) := by decide +kernel
theorem dX7_run_104 : decode cX7_run 104 = .ok (.iconst 1, 1) := by decide +kernel
theorem dX7_run_105 : decode cX7_run 105 = .ok (.isub, 1) := by decide +kernel
theorem dX7_run_106 : decode cX7_run 106 = .ok (.putfield 319, 3) := by decide +kernel
theorem dX7_run_109 : decode cX7_run 109 = .ok (.iload 6, 2) := by decide +kernel
theorem dX7_run_11 : decode cX7_run 11 = .ok (.iload_n 1, 1) := by decide +kernel
theorem dX7_run_111 : decode cX7_run 111 = .ok (.aload_n 0, 1) := by decide +kernel
theorem dX7_run_112 : decode cX7_run 112 = .ok (.getfield 89, 3) := by decide +kernel
theorem dX7_run_115 : decode cX7_run 115 = .ok (.iload 4, 2) := by decide +kernel
theorem dX7_run_117 : decode cX7_run 117 = .ok (.iaload, 1) := by decide +kernel
theorem dX7_run_118 : decode cX7_run 118 = .ok (.if_icmp .ne 6, 3) := by decide +kernel
theorem dX7_run_12 : decode cX7_run 12 = .ok (.sipush 1000, 3) := by decide +kernel
theorem dX7_run_121 : decode cX7_run 121 = .ok (.goto 14, 3) := by decide +kernel
theorem dX7_run_124 : decode cX7_run 124 = .ok (.aload_n 0, 1) := by decide +kernel
theorem dX7_run_125 : decode cX7_run 125 = .ok (.iload 4, 2) := by decide +kernel
theorem dX7_run_127 : decode cX7_run 127 = .ok (.iload 6, 2) := by decide +kernel
theorem dX7_run_129 : decode cX7_run 129 = .ok (.invokevirtual 322, 3) := by decide +kernel
theorem dX7_run_132 : decode cX7_run 132 = .ok (.iinc 2 1, 3) := by decide +kernel
theorem dX7_run_135 : decode cX7_run 135 = .ok (.iinc 4 1, 3) := by decide +kernel
theorem dX7_run_138 : decode cX7_run 138 = .ok (.goto (-93), 3) := by decide +kernel
theorem dX7_run_141 : decode cX7_run 141 = .ok (.iload_n 2, 1) := by decide +kernel
theorem dX7_run_142 : decode cX7_run 142 = .ok (.aload_n 0, 1) := by decide +kernel
theorem dX7_run_143 : decode cX7_run 143 = .ok (.invokevirtual 328, 3) := by decide +kernel
theorem dX7_run_146 : decode cX7_run 146 = .ok (.iadd, 1) := by decide +kernel
theorem dX7_run_147 : decode cX7_run 147 = .ok (.istore_n 2, 1) := by decide +kernel
theorem dX7_run_148 : decode cX7_run 148 = .ok (.iinc 3 1, 3) := by decide +kernel
theorem dX7_run_15 : decode cX7_run 15 = .ok (.if_icmp .le 5, 3) := by decide +kernel
theorem dX7_run_151 : decode cX7_run 151 = .ok (.goto (-124), 3) := by decide +kernel
theorem dX7_run_154 : decode cX7_run 154 = .ok (.iload_n 2, 1) := by decide +kernel
theorem dX7_run_155 : decode cX7_run 155 = .ok (.ireturn, 1) := by decide +kernel
theorem dX7_run_18 : decode cX7_run 18 = .ok (.iconst (-1), 1) := by decide +kernel
theorem dX7_run_19 : decode cX7_run 19 = .ok (.ireturn, 1) := by decide +kernel
theorem dX7_run_20 : decode cX7_run 20 = .ok (.aload_n 0, 1) := by decide +kernel
theorem dX7_run_21 : decode cX7_run 21 = .ok (.invokevirtual 328, 3) := by decide +kernel
theorem dX7_run_24 : decode cX7_run 24 = .ok (.istore_n 2, 1) := by decide +kernel
theorem dX7_run_25 : decode cX7_run 25 = .ok (.iconst 0, 1) := by decide +kernel
theorem dX7_run_26 : decode cX7_run 26 = .ok (.istore_n 3, 1) := by decide +kernel
theorem dX7_run_27 : decode cX7_run 27 = .ok (.iload_n 3, 1) := by decide +kernel
theorem dX7_run_28 : decode cX7_run 28 = .ok (.iload_n 1, 1) := by decide +kernel
theorem dX7_run_29 : decode cX7_run 29 = .ok (.if_icmp .ge 125, 3) := by decide +kernel
theorem dX7_run_32 : decode cX7_run 32 = .ok (.aload_n 0, 1) := by decide +kernel
theorem dX7_run_33 : decode cX7_run 33 = .ok (.dup, 1) := by decide +kernel
theorem dX7_run_34 : decode cX7_run 34 = .ok (.getfield 316, 3) := by decide +kernel
theorem dX7_run_37 : decode cX7_run 37 = .ok (.iconst 1, 1) := by decide +kernel
theorem dX7_run_38 : decode cX7_run 38 = .ok (.iadd, 1) := by decide +kernel
theorem dX7_run_39 : decode cX7_run 39 = .ok (.putfield 316, 3) := by decide +kernel
theorem dX7_run_4 : decode cX7_run 4 = .ok (.ifCond .eq 14, 3) := by decide +kernel
theorem dX7_run_42 : decode cX7_run 42 = .ok (.iconst 0, 1) := by decide +kernel
theorem dX7_run_43 : decode cX7_run 43 = .ok (.istore 4, 2) := by decide +kernel
theorem dX7_run_45 : decode cX7_run 45 = .ok (.iload 4, 2) := by decide +kernel
theorem dX7_run_47 : decode cX7_run 47 = .ok (.aload_n 0, 1) := by decide +kernel
theorem dX7_run_48 : decode cX7_run 48 = .ok (.getfield 261, 3) := by decide +kernel
theorem dX7_run_51 : decode cX7_run 51 = .ok (.if_icmp .ge 90, 3) := by decide +kernel
theorem dX7_run_54 : decode cX7_run 54 = .ok (.bipush 10, 2) := by decide +kernel
theorem dX7_run_56 : decode cX7_run 56 = .ok (.iload 4, 2) := by decide +kernel
theorem dX7_run_58 : decode cX7_run 58 = .ok (.imul, 1) := by decide +kernel
theorem dX7_run_59 : decode cX7_run 59 = .ok (.aload_n 0, 1) := by decide +kernel
theorem dX7_run_60 : decode cX7_run 60 = .ok (.getfield 316, 3) := by decide +kernel
theorem dX7_run_63 : decode cX7_run 63 = .ok (.bipush 10, 2) := by decide +kernel
theorem dX7_run_65 : decode cX7_run 65 = .ok (.irem, 1) := by decide +kernel
theorem dX7_run_66 : decode cX7_run 66 = .ok (.iadd, 1) := by decide +kernel
theorem dX7_run_67 : decode cX7_run 67 = .ok (.istore 5, 2) := by decide +kernel
theorem dX7_run_69 : decode cX7_run 69 = .ok (.aload_n 0, 1) := by decide +kernel
theorem dX7_run_7 : decode cX7_run 7 = .ok (.iload_n 1, 1) := by decide +kernel
theorem dX7_run_70 : decode cX7_run 70 = .ok (.getfield 95, 3) := by decide +kernel
theorem dX7_run_73 : decode cX7_run 73 = .ok (.iload 5, 2) := by decide +kernel
theorem dX7_run_75 : decode cX7_run 75 = .ok (.iaload, 1) := by decide +kernel
theorem dX7_run_76 : decode cX7_run 76 = .ok (.ifCond .ge 6, 3) := by decide +kernel
theorem dX7_run_79 : decode cX7_run 79 = .ok (.goto 56, 3) := by decide +kernel
theorem dX7_run_8 : decode cX7_run 8 = .ok (.ifCond .lt 10, 3) := by decide +kernel
theorem dX7_run_82 : decode cX7_run 82 = .ok (.aload_n 0, 1) := by decide +kernel
theorem dX7_run_83 : decode cX7_run 83 = .ok (.getfield 95, 3) := by decide +kernel
theorem dX7_run_86 : decode cX7_run 86 = .ok (.iload 5, 2) := by decide +kernel
theorem dX7_run_88 : decode cX7_run 88 = .ok (.iaload, 1) := by decide +kernel
theorem dX7_run_89 : decode cX7_run 89 = .ok (.istore 6, 2) := by decide +kernel
theorem dX7_run_91 : decode cX7_run 91 = .ok (.aload_n 0, 1) := by decide +kernel
theorem dX7_run_92 : decode cX7_run 92 = .ok (.getfield 95, 3) := by decide +kernel
theorem dX7_run_95 : decode cX7_run 95 = .ok (.iload 5, 2) := by decide +kernel
theorem dX7_run_97 : decode cX7_run 97 = .ok (.iconst (-1), 1) := by decide +kernel
theorem dX7_run_98 : decode cX7_run 98 = .ok (.iastore, 1) := by decide +kernel
theorem dX7_run_99 : decode cX7_run 99 = .ok (.aload_n 0, 1) := by decide +kernel
theorem dX7_set_0 : decode cX7_set 0 = .ok (.aload_n 0, 1) := by decide +kernel
theorem dX7_set_1 : decode cX7_set 1 = .ok (.iload_n 1, 1) := by decide +kernel
theorem dX7_set_10 : decode cX7_set 10 = .ok (.invokevirtual 271, 3) := by decide +kernel
theorem dX7_set_13 : decode cX7_set 13 = .ok (.ifCond .ne 12, 3) := by decide +kernel
theorem dX7_set_16 : decode cX7_set 16 = .ok (.iload_n 2, 1) := by decide +kernel
theorem dX7_set_17 : decode cX7_set 17 = .ok (.ifCond .lt 8, 3) := by decide +kernel
theorem dX7_set_2 : decode cX7_set 2 = .ok (.invokevirtual 301, 3) := by decide +kernel
theorem dX7_set_20 : decode cX7_set 20 = .ok (.iload_n 2, 1) := by decide +kernel
theorem dX7_set_21 : decode cX7_set 21 = .ok (.iconst 3, 1) := by decide +kernel
theorem dX7_set_22 : decode cX7_set 22 = .ok (.if_icmp .le 5, 3) := by decide +kernel
theorem dX7_set_25 : decode cX7_set 25 = .ok (.iconst 0, 1) := by decide +kernel
theorem dX7_set_26 : decode cX7_set 26 = .ok (.ireturn, 1) := by decide +kernel
theorem dX7_set_27 : decode cX7_set 27 = .ok (.aload_n 0, 1) := by decide +kernel
theorem dX7_set_28 : decode cX7_set 28 = .ok (.getfield 71, 3) := by decide +kernel
theorem dX7_set_31 : decode cX7_set 31 = .ok (.iload_n 1, 1) := by decide +kernel
theorem dX7_set_32 : decode cX7_set 32 = .ok (.iload_n 2, 1) := by decide +kernel
theorem dX7_set_33 : decode cX7_set 33 = .ok (.iastore, 1) := by decide +kernel
theorem dX7_set_34 : decode cX7_set 34 = .ok (.aload_n 0, 1) := by decide +kernel
theorem dX7_set_35 : decode cX7_set 35 = .ok (.invokevirtual 274, 3) := by decide +kernel
theorem dX7_set_38 : decode cX7_set 38 = .ok (.iconst 1, 1) := by decide +kernel
theorem dX7_set_39 : decode cX7_set 39 = .ok (.ireturn, 1) := by decide +kernel
theorem dX7_set_5 : decode cX7_set 5 = .ok (.ifCond .eq 20, 3) := by decide +kernel
theorem dX7_set_8 : decode cX7_set 8 = .ok (.aload_n 0, 1) := by decide +kernel
theorem dX7_set_9 : decode cX7_set 9 = .ok (.iload_n 1, 1) := by decide +kernel
theorem dX7_settle_0 : decode cX7_settle 0 = .ok (.iconst 0, 1) := by decide +kernel
theorem dX7_settle_1 : decode cX7_settle 1 = .ok (.istore_n 1, 1) := by decide +kernel
theorem dX7_settle_10 : decode cX7_settle 10 = .ok (.aload_n 0, 1) := by decide +kernel
theorem dX7_settle_11 : decode cX7_settle 11 = .ok (.getfield 74, 3) := by decide +kernel
theorem dX7_settle_14 : decode cX7_settle 14 = .ok (.iload_n 1, 1) := by decide +kernel
theorem dX7_settle_15 : decode cX7_settle 15 = .ok (.aload_n 0, 1) := by decide +kernel
theorem dX7_settle_16 : decode cX7_settle 16 = .ok (.getfield 71, 3) := by decide +kernel
theorem dX7_settle_19 : decode cX7_settle 19 = .ok (.iload_n 1, 1) := by decide +kernel
theorem dX7_settle_2 : decode cX7_settle 2 = .ok (.iload_n 1, 1) := by decide +kernel
theorem dX7_settle_20 : decode cX7_settle 20 = .ok (.iaload, 1) := by decide +kernel
theorem dX7_settle_21 : decode cX7_settle 21 = .ok (.iastore, 1) := by decide +kernel
theorem dX7_settle_22 : decode cX7_settle 22 = .ok (.iinc 1 1, 3) := by decide +kernel
theorem dX7_settle_25 : decode cX7_settle 25 = .ok (.goto (-23), 3) := by decide +kernel
theorem dX7_settle_28 : decode cX7_settle 28 = .ok (.aload_n 0, 1) := by decide +kernel
theorem dX7_settle_29 : decode cX7_settle 29 = .ok (.aload_n 0, 1) := by decide +kernel
theorem dX7_settle_3 : decode cX7_settle 3 = .ok (.aload_n 0, 1) := by decide +kernel
theorem dX7_settle_30 : decode cX7_settle 30 = .ok (.getfield 74, 3) := by decide +kernel
theorem dX7_settle_33 : decode cX7_settle 33 = .ok (.invokevirtual 291, 3) := by decide +kernel
theorem dX7_settle_36 : decode cX7_settle 36 = .ok (.return_, 1) := by decide +kernel
theorem dX7_settle_4 : decode cX7_settle 4 = .ok (.getfield 261, 3) := by decide +kernel
theorem dX7_settle_7 : decode cX7_settle 7 = .ok (.if_icmp .ge 21, 3) := by decide +kernel
theorem dX7_sharp_0 : decode cX7_sharp 0 = .ok (.aload_n 0, 1) := by decide +kernel
theorem dX7_sharp_1 : decode cX7_sharp 1 = .ok (.iload_n 1, 1) := by decide +kernel
theorem dX7_sharp_10 : decode cX7_sharp 10 = .ok (.aload_n 0, 1) := by decide +kernel
theorem dX7_sharp_11 : decode cX7_sharp 11 = .ok (.invokevirtual 310, 3) := by decide +kernel
theorem dX7_sharp_14 : decode cX7_sharp 14 = .ok (.aload_n 0, 1) := by decide +kernel
theorem dX7_sharp_15 : decode cX7_sharp 15 = .ok (.getfield 304, 3) := by decide +kernel
theorem dX7_sharp_18 : decode cX7_sharp 18 = .ok (.bipush 12, 2) := by decide +kernel
theorem dX7_sharp_2 : decode cX7_sharp 2 = .ok (.invokevirtual 301, 3) := by decide +kernel
theorem dX7_sharp_20 : decode cX7_sharp 20 = .ok (.if_icmp .le 6, 3) := by decide +kernel
theorem dX7_sharp_23 : decode cX7_sharp 23 = .ok (.bipush (-2), 2) := by decide +kernel
theorem dX7_sharp_25 : decode cX7_sharp 25 = .ok (.ireturn, 1) := by decide +kernel
theorem dX7_sharp_26 : decode cX7_sharp 26 = .ok (.iconst 3, 1) := by decide +kernel
theorem dX7_sharp_27 : decode cX7_sharp 27 = .ok (.istore_n 2, 1) := by decide +kernel
theorem dX7_sharp_28 : decode cX7_sharp 28 = .ok (.iconst 0, 1) := by decide +kernel
theorem dX7_sharp_29 : decode cX7_sharp 29 = .ok (.istore_n 3, 1) := by decide +kernel
theorem dX7_sharp_30 : decode cX7_sharp 30 = .ok (.iload_n 3, 1) := by decide +kernel
theorem dX7_sharp_31 : decode cX7_sharp 31 = .ok (.iconst 1, 1) := by decide +kernel
theorem dX7_sharp_32 : decode cX7_sharp 32 = .ok (.aload_n 0, 1) := by decide +kernel
theorem dX7_sharp_33 : decode cX7_sharp 33 = .ok (.getfield 304, 3) := by decide +kernel
theorem dX7_sharp_36 : decode cX7_sharp 36 = .ok (.ishl, 1) := by decide +kernel
theorem dX7_sharp_37 : decode cX7_sharp 37 = .ok (.if_icmp .ge 43, 3) := by decide +kernel
theorem dX7_sharp_40 : decode cX7_sharp 40 = .ok (.aload_n 0, 1) := by decide +kernel
theorem dX7_sharp_41 : decode cX7_sharp 41 = .ok (.iload_n 3, 1) := by decide +kernel
theorem dX7_sharp_42 : decode cX7_sharp 42 = .ok (.invokevirtual 313, 3) := by decide +kernel
theorem dX7_sharp_45 : decode cX7_sharp 45 = .ok (.ifCond .eq 29, 3) := by decide +kernel
theorem dX7_sharp_48 : decode cX7_sharp 48 = .ok (.iload_n 2, 1) := by decide +kernel
theorem dX7_sharp_49 : decode cX7_sharp 49 = .ok (.iconst 3, 1) := by decide +kernel
theorem dX7_sharp_5 : decode cX7_sharp 5 = .ok (.ifCond .ne 5, 3) := by decide +kernel
theorem dX7_sharp_50 : decode cX7_sharp 50 = .ok (.if_icmp .eq 13, 3) := by decide +kernel
theorem dX7_sharp_53 : decode cX7_sharp 53 = .ok (.iload_n 2, 1) := by decide +kernel
theorem dX7_sharp_54 : decode cX7_sharp 54 = .ok (.aload_n 0, 1) := by decide +kernel
theorem dX7_sharp_55 : decode cX7_sharp 55 = .ok (.getfield 77, 3) := by decide +kernel
theorem dX7_sharp_58 : decode cX7_sharp 58 = .ok (.iload_n 1, 1) := by decide +kernel
theorem dX7_sharp_59 : decode cX7_sharp 59 = .ok (.iaload, 1) := by decide +kernel
theorem dX7_sharp_60 : decode cX7_sharp 60 = .ok (.if_icmp .ne 12, 3) := by decide +kernel
theorem dX7_sharp_63 : decode cX7_sharp 63 = .ok (.aload_n 0, 1) := by decide +kernel
theorem dX7_sharp_64 : decode cX7_sharp 64 = .ok (.getfield 77, 3) := by decide +kernel
theorem dX7_sharp_67 : decode cX7_sharp 67 = .ok (.iload_n 1, 1) := by decide +kernel
theorem dX7_sharp_68 : decode cX7_sharp 68 = .ok (.iaload, 1) := by decide +kernel
theorem dX7_sharp_69 : decode cX7_sharp 69 = .ok (.goto 4, 3) := by decide +kernel
theorem dX7_sharp_72 : decode cX7_sharp 72 = .ok (.iconst 2, 1) := by decide +kernel
theorem dX7_sharp_73 : decode cX7_sharp 73 = .ok (.istore_n 2, 1) := by decide +kernel
theorem dX7_sharp_74 : decode cX7_sharp 74 = .ok (.iinc 3 1, 3) := by decide +kernel
theorem dX7_sharp_77 : decode cX7_sharp 77 = .ok (.goto (-47), 3) := by decide +kernel
theorem dX7_sharp_8 : decode cX7_sharp 8 = .ok (.iconst (-1), 1) := by decide +kernel
theorem dX7_sharp_80 : decode cX7_sharp 80 = .ok (.iload_n 2, 1) := by decide +kernel
theorem dX7_sharp_81 : decode cX7_sharp 81 = .ok (.ireturn, 1) := by decide +kernel
theorem dX7_sharp_9 : decode cX7_sharp 9 = .ok (.ireturn, 1) := by decide +kernel
theorem dX7_sign_0 : decode cX7_sign 0 = .ok (.iload_n 1, 1) := by decide +kernel
theorem dX7_sign_1 : decode cX7_sign 1 = .ok (.aload_n 0, 1) := by decide +kernel
theorem dX7_sign_12 : decode cX7_sign 12 = .ok (.iload_n 1, 1) := by decide +kernel
theorem dX7_sign_13 : decode cX7_sign 13 = .ok (.baload, 1) := by decide +kernel
theorem dX7_sign_14 : decode cX7_sign 14 = .ok (.sipush 255, 3) := by decide +kernel
theorem dX7_sign_17 : decode cX7_sign 17 = .ok (.iand, 1) := by decide +kernel
theorem dX7_sign_18 : decode cX7_sign 18 = .ok (.goto 4, 3) := by decide +kernel
theorem dX7_sign_2 : decode cX7_sign 2 = .ok (.getfield 107, 3) := by decide +kernel
theorem dX7_sign_21 : decode cX7_sign 21 = .ok (.iconst 0, 1) := by decide +kernel
theorem dX7_sign_22 : decode cX7_sign 22 = .ok (.ireturn, 1) := by decide +kernel
theorem dX7_sign_5 : decode cX7_sign 5 = .ok (.if_icmp .ge 16, 3) := by decide +kernel
theorem dX7_sign_8 : decode cX7_sign 8 = .ok (.aload_n 0, 1) := by decide +kernel
theorem dX7_sign_9 : decode cX7_sign 9 = .ok (.getfield 13, 3) := by decide +kernel
theorem dX7_taken_0 : decode cX7_taken 0 = .ok (.iload_n 0, 1) := by decide +kernel
theorem dX7_taken_1 : decode cX7_taken 1 = .ok (.iconst 3, 1) := by decide +kernel
theorem dX7_taken_10 : decode cX7_taken 10 = .ok (.ireturn, 1) := by decide +kernel
theorem dX7_taken_2 : decode cX7_taken 2 = .ok (.if_icmp .ne 7, 3) := by decide +kernel
theorem dX7_taken_5 : decode cX7_taken 5 = .ok (.iconst 2, 1) := by decide +kernel
theorem dX7_taken_6 : decode cX7_taken 6 = .ok (.goto 4, 3) := by decide +kernel
theorem dX7_taken_9 : decode cX7_taken 9 = .ok (.iload_n 0, 1) := by decide +kernel
theorem dX7_tellAll_0 : decode cX7_tellAll 0 = .ok (.iconst 1, 1) := by decide +kernel
theorem dX7_tellAll_1 : decode cX7_tellAll 1 = .ok (.istore_n 2, 1) := by decide +kernel
theorem dX7_tellAll_10 : decode cX7_tellAll 10 = .ok (.ifCond .eq 38, 3) := by decide +kernel
theorem dX7_tellAll_13 : decode cX7_tellAll 13 = .ok (.aload_n 0, 1) := by decide +kernel
theorem dX7_tellAll_14 : decode cX7_tellAll 14 = .ok (.invokevirtual 179, 3) := by decide +kernel
theorem dX7_tellAll_17 : decode cX7_tellAll 17 = .ok (.aload_n 0, 1) := by decide +kernel
theorem dX7_tellAll_18 : decode cX7_tellAll 18 = .ok (.iload_n 1, 1) := by decide +kernel
theorem dX7_tellAll_19 : decode cX7_tellAll 19 = .ok (.invokevirtual 201, 3) := by decide +kernel
theorem dX7_tellAll_2 : decode cX7_tellAll 2 = .ok (.iload_n 2, 1) := by decide +kernel
theorem dX7_tellAll_22 : decode cX7_tellAll 22 = .ok (.istore_n 3, 1) := by decide +kernel
theorem dX7_tellAll_23 : decode cX7_tellAll 23 = .ok (.aload_n 0, 1) := by decide +kernel
theorem dX7_tellAll_24 : decode cX7_tellAll 24 = .ok (.invokevirtual 191, 3) := by decide +kernel
theorem dX7_tellAll_27 : decode cX7_tellAll 27 = .ok (.ifCond .eq 16, 3) := by decide +kernel
theorem dX7_tellAll_3 : decode cX7_tellAll 3 = .ok (.ifCond .eq 45, 3) := by decide +kernel
theorem dX7_tellAll_30 : decode cX7_tellAll 30 = .ok (.aload_n 0, 1) := by decide +kernel
theorem dX7_tellAll_31 : decode cX7_tellAll 31 = .ok (.bipush 44, 2) := by decide +kernel
theorem dX7_tellAll_33 : decode cX7_tellAll 33 = .ok (.invokevirtual 176, 3) := by decide +kernel
theorem dX7_tellAll_36 : decode cX7_tellAll 36 = .ok (.ifCond .eq 7, 3) := by decide +kernel
theorem dX7_tellAll_39 : decode cX7_tellAll 39 = .ok (.iconst 1, 1) := by decide +kernel
theorem dX7_tellAll_40 : decode cX7_tellAll 40 = .ok (.goto 4, 3) := by decide +kernel
theorem dX7_tellAll_43 : decode cX7_tellAll 43 = .ok (.iconst 0, 1) := by decide +kernel
theorem dX7_tellAll_44 : decode cX7_tellAll 44 = .ok (.istore_n 2, 1) := by decide +kernel
theorem dX7_tellAll_45 : decode cX7_tellAll 45 = .ok (.goto (-43), 3) := by decide +kernel
theorem dX7_tellAll_48 : decode cX7_tellAll 48 = .ok (.aload_n 0, 1) := by decide +kernel
theorem dX7_tellAll_49 : decode cX7_tellAll 49 = .ok (.invokevirtual 191, 3) := by decide +kernel
theorem dX7_tellAll_52 : decode cX7_tellAll 52 = .ok (.ifCond .eq 9, 3) := by decide +kernel
theorem dX7_tellAll_55 : decode cX7_tellAll 55 = .ok (.aload_n 0, 1) := by decide +kernel
theorem dX7_tellAll_56 : decode cX7_tellAll 56 = .ok (.bipush 59, 2) := by decide +kernel
theorem dX7_tellAll_58 : decode cX7_tellAll 58 = .ok (.invokevirtual 204, 3) := by decide +kernel
theorem dX7_tellAll_6 : decode cX7_tellAll 6 = .ok (.aload_n 0, 1) := by decide +kernel
theorem dX7_tellAll_61 : decode cX7_tellAll 61 = .ok (.return_, 1) := by decide +kernel
theorem dX7_tellAll_7 : decode cX7_tellAll 7 = .ok (.invokevirtual 191, 3) := by decide +kernel
theorem dX7_tell_0 : decode cX7_tell 0 = .ok (.aload_n 0, 1) := by decide +kernel
theorem dX7_tell_1 : decode cX7_tell 1 = .ok (.getfield 141, 3) := by decide +kernel
theorem dX7_tell_100 : decode cX7_tell 100 = .ok (.iastore, 1) := by decide +kernel
theorem dX7_tell_101 : decode cX7_tell 101 = .ok (.aload_n 0, 1) := by decide +kernel
theorem dX7_tell_102 : decode cX7_tell 102 = .ok (.getfield 34, 3) := by decide +kernel
theorem dX7_tell_105 : decode cX7_tell 105 = .ok (.iload_n 2, 1) := by decide +kernel
theorem dX7_tell_106 : decode cX7_tell 106 = .ok (.iconst 0, 1) := by decide +kernel
theorem dX7_tell_107 : decode cX7_tell 107 = .ok (.iastore, 1) := by decide +kernel
theorem dX7_tell_108 : decode cX7_tell 108 = .ok (.aload_n 0, 1) := by decide +kernel
theorem dX7_tell_109 : decode cX7_tell 109 = .ok (.getfield 43, 3) := by decide +kernel
theorem dX7_tell_112 : decode cX7_tell 112 = .ok (.aload_n 0, 1) := by decide +kernel
theorem dX7_tell_113 : decode cX7_tell 113 = .ok (.getfield 185, 3) := by decide +kernel
theorem dX7_tell_116 : decode cX7_tell 116 = .ok (.aload_n 0, 1) := by decide +kernel
theorem dX7_tell_117 : decode cX7_tell 117 = .ok (.getfield 134, 3) := by decide +kernel
theorem dX7_tell_12 : decode cX7_tell 12 = .ok (.bipush 60, 2) := by decide +kernel
theorem dX7_tell_120 : decode cX7_tell 120 = .ok (.iastore, 1) := by decide +kernel
theorem dX7_tell_121 : decode cX7_tell 121 = .ok (.aload_n 0, 1) := by decide +kernel
theorem dX7_tell_122 : decode cX7_tell 122 = .ok (.dup, 1) := by decide +kernel
theorem dX7_tell_123 : decode cX7_tell 123 = .ok (.getfield 185, 3) := by decide +kernel
theorem dX7_tell_126 : decode cX7_tell 126 = .ok (.iconst 1, 1) := by decide +kernel
theorem dX7_tell_127 : decode cX7_tell 127 = .ok (.iadd, 1) := by decide +kernel
theorem dX7_tell_128 : decode cX7_tell 128 = .ok (.putfield 185, 3) := by decide +kernel
theorem dX7_tell_131 : decode cX7_tell 131 = .ok (.aload_n 0, 1) := by decide +kernel
theorem dX7_tell_132 : decode cX7_tell 132 = .ok (.invokevirtual 179, 3) := by decide +kernel
theorem dX7_tell_135 : decode cX7_tell 135 = .ok (.iload_n 2, 1) := by decide +kernel
theorem dX7_tell_136 : decode cX7_tell 136 = .ok (.ireturn, 1) := by decide +kernel
theorem dX7_tell_14 : decode cX7_tell 14 = .ok (.if_icmp .ne 7, 3) := by decide +kernel
theorem dX7_tell_17 : decode cX7_tell 17 = .ok (.aload_n 0, 1) := by decide +kernel
theorem dX7_tell_18 : decode cX7_tell 18 = .ok (.invokevirtual 182, 3) := by decide +kernel
theorem dX7_tell_21 : decode cX7_tell 21 = .ok (.aload_n 0, 1) := by decide +kernel
theorem dX7_tell_22 : decode cX7_tell 22 = .ok (.invokevirtual 191, 3) := by decide +kernel
theorem dX7_tell_25 : decode cX7_tell 25 = .ok (.ifCond .eq 23, 3) := by decide +kernel
theorem dX7_tell_28 : decode cX7_tell 28 = .ok (.aload_n 0, 1) := by decide +kernel
theorem dX7_tell_29 : decode cX7_tell 29 = .ok (.aload_n 0, 1) := by decide +kernel
theorem dX7_tell_30 : decode cX7_tell 30 = .ok (.getfield 151, 3) := by decide +kernel
theorem dX7_tell_33 : decode cX7_tell 33 = .ok (.invokevirtual 195, 3) := by decide +kernel
theorem dX7_tell_36 : decode cX7_tell 36 = .ok (.ifCond .lt 12, 3) := by decide +kernel
theorem dX7_tell_39 : decode cX7_tell 39 = .ok (.aload_n 0, 1) := by decide +kernel
theorem dX7_tell_4 : decode cX7_tell 4 = .ok (.iconst 2, 1) := by decide +kernel
theorem dX7_tell_40 : decode cX7_tell 40 = .ok (.iconst 3, 1) := by decide +kernel
theorem dX7_tell_41 : decode cX7_tell 41 = .ok (.aload_n 0, 1) := by decide +kernel
theorem dX7_tell_42 : decode cX7_tell 42 = .ok (.getfield 134, 3) := by decide +kernel
theorem dX7_tell_45 : decode cX7_tell 45 = .ok (.invokevirtual 172, 3) := by decide +kernel
theorem dX7_tell_48 : decode cX7_tell 48 = .ok (.aload_n 0, 1) := by decide +kernel
theorem dX7_tell_49 : decode cX7_tell 49 = .ok (.invokevirtual 191, 3) := by decide +kernel
theorem dX7_tell_5 : decode cX7_tell 5 = .ok (.if_icmp .ne 12, 3) := by decide +kernel
theorem dX7_tell_52 : decode cX7_tell 52 = .ok (.ifCond .ne 5, 3) := by decide +kernel
theorem dX7_tell_55 : decode cX7_tell 55 = .ok (.iconst (-1), 1) := by decide +kernel
theorem dX7_tell_56 : decode cX7_tell 56 = .ok (.ireturn, 1) := by decide +kernel
theorem dX7_tell_57 : decode cX7_tell 57 = .ok (.bipush 60, 2) := by decide +kernel
theorem dX7_tell_59 : decode cX7_tell 59 = .ok (.aload_n 0, 1) := by decide +kernel
theorem dX7_tell_60 : decode cX7_tell 60 = .ok (.getfield 188, 3) := by decide +kernel
theorem dX7_tell_63 : decode cX7_tell 63 = .ok (.imul, 1) := by decide +kernel
theorem dX7_tell_64 : decode cX7_tell 64 = .ok (.aload_n 0, 1) := by decide +kernel
theorem dX7_tell_65 : decode cX7_tell 65 = .ok (.getfield 185, 3) := by decide +kernel
theorem dX7_tell_68 : decode cX7_tell 68 = .ok (.iadd, 1) := by decide +kernel
theorem dX7_tell_69 : decode cX7_tell 69 = .ok (.istore_n 2, 1) := by decide +kernel
theorem dX7_tell_70 : decode cX7_tell 70 = .ok (.aload_n 0, 1) := by decide +kernel
theorem dX7_tell_71 : decode cX7_tell 71 = .ok (.getfield 20, 3) := by decide +kernel
theorem dX7_tell_74 : decode cX7_tell 74 = .ok (.iload_n 2, 1) := by decide +kernel
theorem dX7_tell_75 : decode cX7_tell 75 = .ok (.aload_n 0, 1) := by decide +kernel
theorem dX7_tell_76 : decode cX7_tell 76 = .ok (.getfield 151, 3) := by decide +kernel
theorem dX7_tell_79 : decode cX7_tell 79 = .ok (.lastore, 1) := by decide +kernel
theorem dX7_tell_8 : decode cX7_tell 8 = .ok (.aload_n 0, 1) := by decide +kernel
theorem dX7_tell_80 : decode cX7_tell 80 = .ok (.aload_n 0, 1) := by decide +kernel
theorem dX7_tell_81 : decode cX7_tell 81 = .ok (.getfield 24, 3) := by decide +kernel
theorem dX7_tell_84 : decode cX7_tell 84 = .ok (.iload_n 2, 1) := by decide +kernel
theorem dX7_tell_85 : decode cX7_tell 85 = .ok (.iload_n 1, 1) := by decide +kernel
theorem dX7_tell_86 : decode cX7_tell 86 = .ok (.iastore, 1) := by decide +kernel
theorem dX7_tell_87 : decode cX7_tell 87 = .ok (.aload_n 0, 1) := by decide +kernel
theorem dX7_tell_88 : decode cX7_tell 88 = .ok (.getfield 28, 3) := by decide +kernel
theorem dX7_tell_9 : decode cX7_tell 9 = .ok (.getfield 185, 3) := by decide +kernel
theorem dX7_tell_91 : decode cX7_tell 91 = .ok (.iload_n 2, 1) := by decide +kernel
theorem dX7_tell_92 : decode cX7_tell 92 = .ok (.iconst (-1), 1) := by decide +kernel
theorem dX7_tell_93 : decode cX7_tell 93 = .ok (.iastore, 1) := by decide +kernel
theorem dX7_tell_94 : decode cX7_tell 94 = .ok (.aload_n 0, 1) := by decide +kernel
theorem dX7_tell_95 : decode cX7_tell 95 = .ok (.getfield 31, 3) := by decide +kernel
theorem dX7_tell_98 : decode cX7_tell 98 = .ok (.iload_n 2, 1) := by decide +kernel
theorem dX7_tell_99 : decode cX7_tell 99 = .ok (.iconst 0, 1) := by decide +kernel
theorem dX7_tick_0 : decode cX7_tick 0 = .ok (.iconst 0, 1) := by decide +kernel
theorem dX7_tick_1 : decode cX7_tick 1 = .ok (.istore_n 1, 1) := by decide +kernel
theorem dX7_tick_102 : decode cX7_tick 102 = .ok (.aload_n 0, 1) := by decide +kernel
theorem dX7_tick_103 : decode cX7_tick 103 = .ok (.getfield 74, 3) := by decide +kernel
theorem dX7_tick_106 : decode cX7_tick 106 = .ok (.iload_n 2, 1) := by decide +kernel
theorem dX7_tick_107 : decode cX7_tick 107 = .ok (.iaload, 1) := by decide +kernel
theorem dX7_tick_108 : decode cX7_tick 108 = .ok (.goto 4, 3) := by decide +kernel
theorem dX7_tick_111 : decode cX7_tick 111 = .ok (.iconst 2, 1) := by decide +kernel
theorem dX7_tick_112 : decode cX7_tick 112 = .ok (.istore 5, 2) := by decide +kernel
theorem dX7_tick_114 : decode cX7_tick 114 = .ok (.iload_n 1, 1) := by decide +kernel
theorem dX7_tick_115 : decode cX7_tick 115 = .ok (.iload 5, 2) := by decide +kernel
theorem dX7_tick_117 : decode cX7_tick 117 = .ok (.aload_n 0, 1) := by decide +kernel
theorem dX7_tick_118 : decode cX7_tick 118 = .ok (.getfield 74, 3) := by decide +kernel
theorem dX7_tick_12 : decode cX7_tick 12 = .ok (.aload_n 0, 1) := by decide +kernel
theorem dX7_tick_121 : decode cX7_tick 121 = .ok (.iload_n 2, 1) := by decide +kernel
theorem dX7_tick_122 : decode cX7_tick 122 = .ok (.iaload, 1) := by decide +kernel
theorem dX7_tick_123 : decode cX7_tick 123 = .ok (.if_icmp .ne 7, 3) := by decide +kernel
theorem dX7_tick_126 : decode cX7_tick 126 = .ok (.iconst 0, 1) := by decide +kernel
theorem dX7_tick_127 : decode cX7_tick 127 = .ok (.goto 4, 3) := by decide +kernel
theorem dX7_tick_13 : decode cX7_tick 13 = .ok (.iload_n 2, 1) := by decide +kernel
theorem dX7_tick_130 : decode cX7_tick 130 = .ok (.iconst 1, 1) := by decide +kernel
theorem dX7_tick_131 : decode cX7_tick 131 = .ok (.iadd, 1) := by decide +kernel
theorem dX7_tick_132 : decode cX7_tick 132 = .ok (.istore_n 1, 1) := by decide +kernel
theorem dX7_tick_133 : decode cX7_tick 133 = .ok (.aload_n 0, 1) := by decide +kernel
theorem dX7_tick_134 : decode cX7_tick 134 = .ok (.getfield 71, 3) := by decide +kernel
theorem dX7_tick_137 : decode cX7_tick 137 = .ok (.iload_n 2, 1) := by decide +kernel
theorem dX7_tick_138 : decode cX7_tick 138 = .ok (.iload 5, 2) := by decide +kernel
theorem dX7_tick_14 : decode cX7_tick 14 = .ok (.invokevirtual 271, 3) := by decide +kernel
theorem dX7_tick_140 : decode cX7_tick 140 = .ok (.iastore, 1) := by decide +kernel
theorem dX7_tick_141 : decode cX7_tick 141 = .ok (.iinc 2 1, 3) := by decide +kernel
theorem dX7_tick_144 : decode cX7_tick 144 = .ok (.goto (-140), 3) := by decide +kernel
theorem dX7_tick_147 : decode cX7_tick 147 = .ok (.aload_n 0, 1) := by decide +kernel
theorem dX7_tick_148 : decode cX7_tick 148 = .ok (.invokevirtual 274, 3) := by decide +kernel
theorem dX7_tick_151 : decode cX7_tick 151 = .ok (.iload_n 1, 1) := by decide +kernel
theorem dX7_tick_152 : decode cX7_tick 152 = .ok (.ireturn, 1) := by decide +kernel
theorem dX7_tick_17 : decode cX7_tick 17 = .ok (.iconst 3, 1) := by decide +kernel
theorem dX7_tick_18 : decode cX7_tick 18 = .ok (.if_icmp .eq 6, 3) := by decide +kernel
theorem dX7_tick_2 : decode cX7_tick 2 = .ok (.iconst 0, 1) := by decide +kernel
theorem dX7_tick_21 : decode cX7_tick 21 = .ok (.goto 120, 3) := by decide +kernel
theorem dX7_tick_24 : decode cX7_tick 24 = .ok (.aload_n 0, 1) := by decide +kernel
theorem dX7_tick_25 : decode cX7_tick 25 = .ok (.getfield 74, 3) := by decide +kernel
theorem dX7_tick_28 : decode cX7_tick 28 = .ok (.aload_n 0, 1) := by decide +kernel
theorem dX7_tick_29 : decode cX7_tick 29 = .ok (.iload_n 2, 1) := by decide +kernel
theorem dX7_tick_3 : decode cX7_tick 3 = .ok (.istore_n 2, 1) := by decide +kernel
theorem dX7_tick_30 : decode cX7_tick 30 = .ok (.iconst 0, 1) := by decide +kernel
theorem dX7_tick_31 : decode cX7_tick 31 = .ok (.invokevirtual 277, 3) := by decide +kernel
theorem dX7_tick_34 : decode cX7_tick 34 = .ok (.iaload, 1) := by decide +kernel
theorem dX7_tick_35 : decode cX7_tick 35 = .ok (.invokestatic 281, 3) := by decide +kernel
theorem dX7_tick_38 : decode cX7_tick 38 = .ok (.istore_n 3, 1) := by decide +kernel
theorem dX7_tick_39 : decode cX7_tick 39 = .ok (.aload_n 0, 1) := by decide +kernel
theorem dX7_tick_4 : decode cX7_tick 4 = .ok (.iload_n 2, 1) := by decide +kernel
theorem dX7_tick_40 : decode cX7_tick 40 = .ok (.getfield 31, 3) := by decide +kernel
theorem dX7_tick_43 : decode cX7_tick 43 = .ok (.bipush 60, 2) := by decide +kernel
theorem dX7_tick_45 : decode cX7_tick 45 = .ok (.aload_n 0, 1) := by decide +kernel
theorem dX7_tick_46 : decode cX7_tick 46 = .ok (.getfield 188, 3) := by decide +kernel
theorem dX7_tick_49 : decode cX7_tick 49 = .ok (.imul, 1) := by decide +kernel
theorem dX7_tick_5 : decode cX7_tick 5 = .ok (.aload_n 0, 1) := by decide +kernel
theorem dX7_tick_50 : decode cX7_tick 50 = .ok (.iload_n 2, 1) := by decide +kernel
theorem dX7_tick_51 : decode cX7_tick 51 = .ok (.iadd, 1) := by decide +kernel
theorem dX7_tick_52 : decode cX7_tick 52 = .ok (.iaload, 1) := by decide +kernel
theorem dX7_tick_53 : decode cX7_tick 53 = .ok (.iconst 1, 1) := by decide +kernel
theorem dX7_tick_54 : decode cX7_tick 54 = .ok (.if_icmp .ne 7, 3) := by decide +kernel
theorem dX7_tick_57 : decode cX7_tick 57 = .ok (.iconst 1, 1) := by decide +kernel
theorem dX7_tick_58 : decode cX7_tick 58 = .ok (.goto 17, 3) := by decide +kernel
theorem dX7_tick_6 : decode cX7_tick 6 = .ok (.getfield 261, 3) := by decide +kernel
theorem dX7_tick_61 : decode cX7_tick 61 = .ok (.aload_n 0, 1) := by decide +kernel
theorem dX7_tick_62 : decode cX7_tick 62 = .ok (.getfield 74, 3) := by decide +kernel
theorem dX7_tick_65 : decode cX7_tick 65 = .ok (.aload_n 0, 1) := by decide +kernel
theorem dX7_tick_66 : decode cX7_tick 66 = .ok (.iload_n 2, 1) := by decide +kernel
theorem dX7_tick_67 : decode cX7_tick 67 = .ok (.iconst 1, 1) := by decide +kernel
theorem dX7_tick_68 : decode cX7_tick 68 = .ok (.invokevirtual 277, 3) := by decide +kernel
theorem dX7_tick_71 : decode cX7_tick 71 = .ok (.iaload, 1) := by decide +kernel
theorem dX7_tick_72 : decode cX7_tick 72 = .ok (.invokestatic 281, 3) := by decide +kernel
theorem dX7_tick_75 : decode cX7_tick 75 = .ok (.istore 4, 2) := by decide +kernel
theorem dX7_tick_77 : decode cX7_tick 77 = .ok (.iload 4, 2) := by decide +kernel
theorem dX7_tick_79 : decode cX7_tick 79 = .ok (.iconst 1, 1) := by decide +kernel
theorem dX7_tick_80 : decode cX7_tick 80 = .ok (.if_icmp .ne 7, 3) := by decide +kernel
theorem dX7_tick_83 : decode cX7_tick 83 = .ok (.iload_n 3, 1) := by decide +kernel
theorem dX7_tick_84 : decode cX7_tick 84 = .ok (.goto 28, 3) := by decide +kernel
theorem dX7_tick_87 : decode cX7_tick 87 = .ok (.iload 4, 2) := by decide +kernel
theorem dX7_tick_89 : decode cX7_tick 89 = .ok (.ifCond .eq 13, 3) := by decide +kernel
theorem dX7_tick_9 : decode cX7_tick 9 = .ok (.if_icmp .ge 138, 3) := by decide +kernel
theorem dX7_tick_92 : decode cX7_tick 92 = .ok (.iload_n 3, 1) := by decide +kernel
theorem dX7_tick_93 : decode cX7_tick 93 = .ok (.aload_n 0, 1) := by decide +kernel
theorem dX7_tick_94 : decode cX7_tick 94 = .ok (.getfield 74, 3) := by decide +kernel
theorem dX7_tick_97 : decode cX7_tick 97 = .ok (.iload_n 2, 1) := by decide +kernel
theorem dX7_tick_98 : decode cX7_tick 98 = .ok (.iaload, 1) := by decide +kernel
theorem dX7_tick_99 : decode cX7_tick 99 = .ok (.if_icmp .ne 12, 3) := by decide +kernel
theorem dX7_value_0 : decode cX7_value 0 = .ok (.aload_n 0, 1) := by decide +kernel
theorem dX7_value_1 : decode cX7_value 1 = .ok (.iload_n 1, 1) := by decide +kernel
theorem dX7_value_12 : decode cX7_value 12 = .ok (.iload_n 1, 1) := by decide +kernel
theorem dX7_value_13 : decode cX7_value 13 = .ok (.iaload, 1) := by decide +kernel
theorem dX7_value_14 : decode cX7_value 14 = .ok (.goto 4, 3) := by decide +kernel
theorem dX7_value_17 : decode cX7_value 17 = .ok (.iconst (-1), 1) := by decide +kernel
theorem dX7_value_18 : decode cX7_value 18 = .ok (.ireturn, 1) := by decide +kernel
theorem dX7_value_2 : decode cX7_value 2 = .ok (.invokevirtual 301, 3) := by decide +kernel
theorem dX7_value_5 : decode cX7_value 5 = .ok (.ifCond .eq 12, 3) := by decide +kernel
theorem dX7_value_8 : decode cX7_value 8 = .ok (.aload_n 0, 1) := by decide +kernel
theorem dX7_value_9 : decode cX7_value 9 = .ok (.getfield 74, 3) := by decide +kernel
theorem dX7_wave_0 : decode cX7_wave 0 = .ok (.aload_n 0, 1) := by decide +kernel
theorem dX7_wave_1 : decode cX7_wave 1 = .ok (.getfield 267, 3) := by decide +kernel
theorem dX7_wave_12 : decode cX7_wave 12 = .ok (.ifCond .eq 23, 3) := by decide +kernel
theorem dX7_wave_15 : decode cX7_wave 15 = .ok (.iload_n 2, 1) := by decide +kernel
theorem dX7_wave_16 : decode cX7_wave 16 = .ok (.ifCond .lt 19, 3) := by decide +kernel
theorem dX7_wave_19 : decode cX7_wave 19 = .ok (.iload_n 2, 1) := by decide +kernel
theorem dX7_wave_20 : decode cX7_wave 20 = .ok (.aload_n 0, 1) := by decide +kernel
theorem dX7_wave_21 : decode cX7_wave 21 = .ok (.getfield 101, 3) := by decide +kernel
theorem dX7_wave_24 : decode cX7_wave 24 = .ok (.iload_n 1, 1) := by decide +kernel
theorem dX7_wave_25 : decode cX7_wave 25 = .ok (.iaload, 1) := by decide +kernel
theorem dX7_wave_26 : decode cX7_wave 26 = .ok (.if_icmp .ge 9, 3) := by decide +kernel
theorem dX7_wave_29 : decode cX7_wave 29 = .ok (.iload_n 2, 1) := by decide +kernel
theorem dX7_wave_30 : decode cX7_wave 30 = .ok (.bipush 20, 2) := by decide +kernel
theorem dX7_wave_32 : decode cX7_wave 32 = .ok (.if_icmp .lt 7, 3) := by decide +kernel
theorem dX7_wave_35 : decode cX7_wave 35 = .ok (.iconst (-1), 1) := by decide +kernel
theorem dX7_wave_36 : decode cX7_wave 36 = .ok (.goto 14, 3) := by decide +kernel
theorem dX7_wave_39 : decode cX7_wave 39 = .ok (.aload_n 0, 1) := by decide +kernel
theorem dX7_wave_4 : decode cX7_wave 4 = .ok (.ifCond .eq 31, 3) := by decide +kernel
theorem dX7_wave_40 : decode cX7_wave 40 = .ok (.getfield 98, 3) := by decide +kernel
theorem dX7_wave_43 : decode cX7_wave 43 = .ok (.bipush 20, 2) := by decide +kernel
theorem dX7_wave_45 : decode cX7_wave 45 = .ok (.iload_n 1, 1) := by decide +kernel
theorem dX7_wave_46 : decode cX7_wave 46 = .ok (.imul, 1) := by decide +kernel
theorem dX7_wave_47 : decode cX7_wave 47 = .ok (.iload_n 2, 1) := by decide +kernel
theorem dX7_wave_48 : decode cX7_wave 48 = .ok (.iadd, 1) := by decide +kernel
theorem dX7_wave_49 : decode cX7_wave 49 = .ok (.iaload, 1) := by decide +kernel
theorem dX7_wave_50 : decode cX7_wave 50 = .ok (.ireturn, 1) := by decide +kernel
theorem dX7_wave_7 : decode cX7_wave 7 = .ok (.aload_n 0, 1) := by decide +kernel
theorem dX7_wave_8 : decode cX7_wave 8 = .ok (.iload_n 1, 1) := by decide +kernel
theorem dX7_wave_9 : decode cX7_wave 9 = .ok (.invokevirtual 301, 3) := by decide +kernel
theorem dX7_wheel_0 : decode cX7_wheel 0 = .ok (.aload_n 0, 1) := by decide +kernel
theorem dX7_wheel_1 : decode cX7_wheel 1 = .ok (.iconst 1, 1) := by decide +kernel
theorem dX7_wheel_10 : decode cX7_wheel 10 = .ok (.aload_n 0, 1) := by decide +kernel
theorem dX7_wheel_11 : decode cX7_wheel 11 = .ok (.iconst 0, 1) := by decide +kernel
theorem dX7_wheel_12 : decode cX7_wheel 12 = .ok (.putfield 319, 3) := by decide +kernel
theorem dX7_wheel_15 : decode cX7_wheel 15 = .ok (.iconst 0, 1) := by decide +kernel
theorem dX7_wheel_16 : decode cX7_wheel 16 = .ok (.istore_n 1, 1) := by decide +kernel
theorem dX7_wheel_17 : decode cX7_wheel 17 = .ok (.iload_n 1, 1) := by decide +kernel
theorem dX7_wheel_18 : decode cX7_wheel 18 = .ok (.aload_n 0, 1) := by decide +kernel
theorem dX7_wheel_19 : decode cX7_wheel 19 = .ok (.getfield 261, 3) := by decide +kernel
theorem dX7_wheel_2 : decode cX7_wheel 2 = .ok (.putfield 267, 3) := by decide +kernel
theorem dX7_wheel_22 : decode cX7_wheel 22 = .ok (.if_icmp .ge 73, 3) := by decide +kernel
theorem dX7_wheel_25 : decode cX7_wheel 25 = .ok (.aload_n 0, 1) := by decide +kernel
theorem dX7_wheel_26 : decode cX7_wheel 26 = .ok (.getfield 89, 3) := by decide +kernel
theorem dX7_wheel_29 : decode cX7_wheel 29 = .ok (.iload_n 1, 1) := by decide +kernel
theorem dX7_wheel_30 : decode cX7_wheel 30 = .ok (.aload_n 0, 1) := by decide +kernel
theorem dX7_wheel_31 : decode cX7_wheel 31 = .ok (.getfield 74, 3) := by decide +kernel
theorem dX7_wheel_34 : decode cX7_wheel 34 = .ok (.iload_n 1, 1) := by decide +kernel
theorem dX7_wheel_35 : decode cX7_wheel 35 = .ok (.iaload, 1) := by decide +kernel
theorem dX7_wheel_36 : decode cX7_wheel 36 = .ok (.iastore, 1) := by decide +kernel
theorem dX7_wheel_37 : decode cX7_wheel 37 = .ok (.aload_n 0, 1) := by decide +kernel
theorem dX7_wheel_38 : decode cX7_wheel 38 = .ok (.getfield 92, 3) := by decide +kernel
theorem dX7_wheel_41 : decode cX7_wheel 41 = .ok (.iload_n 1, 1) := by decide +kernel
theorem dX7_wheel_42 : decode cX7_wheel 42 = .ok (.aload_n 0, 1) := by decide +kernel
theorem dX7_wheel_43 : decode cX7_wheel 43 = .ok (.getfield 74, 3) := by decide +kernel
theorem dX7_wheel_46 : decode cX7_wheel 46 = .ok (.iload_n 1, 1) := by decide +kernel
theorem dX7_wheel_47 : decode cX7_wheel 47 = .ok (.iaload, 1) := by decide +kernel
theorem dX7_wheel_48 : decode cX7_wheel 48 = .ok (.iastore, 1) := by decide +kernel
theorem dX7_wheel_49 : decode cX7_wheel 49 = .ok (.aload_n 0, 1) := by decide +kernel
theorem dX7_wheel_5 : decode cX7_wheel 5 = .ok (.aload_n 0, 1) := by decide +kernel
theorem dX7_wheel_50 : decode cX7_wheel 50 = .ok (.getfield 104, 3) := by decide +kernel
theorem dX7_wheel_53 : decode cX7_wheel 53 = .ok (.iload_n 1, 1) := by decide +kernel
theorem dX7_wheel_54 : decode cX7_wheel 54 = .ok (.iconst 0, 1) := by decide +kernel
theorem dX7_wheel_55 : decode cX7_wheel 55 = .ok (.bastore, 1) := by decide +kernel
theorem dX7_wheel_56 : decode cX7_wheel 56 = .ok (.aload_n 0, 1) := by decide +kernel
theorem dX7_wheel_57 : decode cX7_wheel 57 = .ok (.getfield 101, 3) := by decide +kernel
theorem dX7_wheel_6 : decode cX7_wheel 6 = .ok (.iconst 0, 1) := by decide +kernel
theorem dX7_wheel_60 : decode cX7_wheel 60 = .ok (.iload_n 1, 1) := by decide +kernel
theorem dX7_wheel_61 : decode cX7_wheel 61 = .ok (.iconst 0, 1) := by decide +kernel
theorem dX7_wheel_62 : decode cX7_wheel 62 = .ok (.iastore, 1) := by decide +kernel
theorem dX7_wheel_63 : decode cX7_wheel 63 = .ok (.iconst 0, 1) := by decide +kernel
theorem dX7_wheel_64 : decode cX7_wheel 64 = .ok (.istore_n 2, 1) := by decide +kernel
theorem dX7_wheel_65 : decode cX7_wheel 65 = .ok (.iload_n 2, 1) := by decide +kernel
theorem dX7_wheel_66 : decode cX7_wheel 66 = .ok (.bipush 10, 2) := by decide +kernel
theorem dX7_wheel_68 : decode cX7_wheel 68 = .ok (.if_icmp .ge 21, 3) := by decide +kernel
theorem dX7_wheel_7 : decode cX7_wheel 7 = .ok (.putfield 316, 3) := by decide +kernel
theorem dX7_wheel_71 : decode cX7_wheel 71 = .ok (.aload_n 0, 1) := by decide +kernel
theorem dX7_wheel_72 : decode cX7_wheel 72 = .ok (.getfield 95, 3) := by decide +kernel
theorem dX7_wheel_75 : decode cX7_wheel 75 = .ok (.bipush 10, 2) := by decide +kernel
theorem dX7_wheel_77 : decode cX7_wheel 77 = .ok (.iload_n 1, 1) := by decide +kernel
theorem dX7_wheel_78 : decode cX7_wheel 78 = .ok (.imul, 1) := by decide +kernel
theorem dX7_wheel_79 : decode cX7_wheel 79 = .ok (.iload_n 2, 1) := by decide +kernel
theorem dX7_wheel_80 : decode cX7_wheel 80 = .ok (.iadd, 1) := by decide +kernel
theorem dX7_wheel_81 : decode cX7_wheel 81 = .ok (.iconst (-1), 1) := by decide +kernel
theorem dX7_wheel_82 : decode cX7_wheel 82 = .ok (.iastore, 1) := by decide +kernel
theorem dX7_wheel_83 : decode cX7_wheel 83 = .ok (.iinc 2 1, 3) := by decide +kernel
theorem dX7_wheel_86 : decode cX7_wheel 86 = .ok (.goto (-21), 3) := by decide +kernel
theorem dX7_wheel_89 : decode cX7_wheel 89 = .ok (.iinc 1 1, 3) := by decide +kernel
theorem dX7_wheel_92 : decode cX7_wheel 92 = .ok (.goto (-75), 3) := by decide +kernel
theorem dX7_wheel_95 : decode cX7_wheel 95 = .ok (.iconst 1, 1) := by decide +kernel
theorem dX7_wheel_96 : decode cX7_wheel 96 = .ok (.ireturn, 1) := by decide +kernel
theorem dX7_worlds_0 : decode cX7_worlds 0 = .ok (.aload_n 0, 1) := by decide +kernel
theorem dX7_worlds_1 : decode cX7_worlds 1 = .ok (.invokevirtual 310, 3) := by decide +kernel
theorem dX7_worlds_10 : decode cX7_worlds 10 = .ok (.if_icmp .le 8, 3) := by decide +kernel
theorem dX7_worlds_13 : decode cX7_worlds 13 = .ok (.bipush (-2), 2) := by decide +kernel
theorem dX7_worlds_15 : decode cX7_worlds 15 = .ok (.goto 9, 3) := by decide +kernel
theorem dX7_worlds_18 : decode cX7_worlds 18 = .ok (.iconst 1, 1) := by decide +kernel
theorem dX7_worlds_19 : decode cX7_worlds 19 = .ok (.aload_n 0, 1) := by decide +kernel
theorem dX7_worlds_20 : decode cX7_worlds 20 = .ok (.getfield 304, 3) := by decide +kernel
theorem dX7_worlds_23 : decode cX7_worlds 23 = .ok (.ishl, 1) := by decide +kernel
theorem dX7_worlds_24 : decode cX7_worlds 24 = .ok (.ireturn, 1) := by decide +kernel
theorem dX7_worlds_4 : decode cX7_worlds 4 = .ok (.aload_n 0, 1) := by decide +kernel
theorem dX7_worlds_5 : decode cX7_worlds 5 = .ok (.getfield 304, 3) := by decide +kernel
theorem dX7_worlds_8 : decode cX7_worlds 8 = .ok (.bipush 12, 2) := by decide +kernel
theorem dX7_wrong_0 : decode cX7_wrong 0 = .ok (.aload_n 0, 1) := by decide +kernel
theorem dX7_wrong_1 : decode cX7_wrong 1 = .ok (.aload_n 0, 1) := by decide +kernel
theorem dX7_wrong_10 : decode cX7_wrong 10 = .ok (.goto 4, 3) := by decide +kernel
theorem dX7_wrong_13 : decode cX7_wrong 13 = .ok (.iconst 2, 1) := by decide +kernel
theorem dX7_wrong_14 : decode cX7_wrong 14 = .ok (.aload_n 0, 1) := by decide +kernel
theorem dX7_wrong_15 : decode cX7_wrong 15 = .ok (.getfield 134, 3) := by decide +kernel
theorem dX7_wrong_18 : decode cX7_wrong 18 = .ok (.invokevirtual 172, 3) := by decide +kernel
theorem dX7_wrong_2 : decode cX7_wrong 2 = .ok (.getfield 141, 3) := by decide +kernel
theorem dX7_wrong_21 : decode cX7_wrong 21 = .ok (.return_, 1) := by decide +kernel
theorem dX7_wrong_5 : decode cX7_wrong 5 = .ok (.iconst 1, 1) := by decide +kernel
theorem dX7_wrong_6 : decode cX7_wrong 6 = .ok (.if_icmp .ne 7, 3) := by decide +kernel
theorem dX7_wrong_9 : decode cX7_wrong 9 = .ok (.iconst 1, 1) := by decide +kernel
