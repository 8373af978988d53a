theorem dX8_ask_160 : decode cX8_ask 160 = .ok (.aload_n 0, 1) := by decide +kernel
theorem dX8_ask_161 : decode cX8_ask 161 = .ok (.getfield 27, 3) := by decide +kernel
theorem dX8_ask_164 : decode cX8_ask 164 = .ok (.iconst 5, 1) := by decide +kernel
theorem dX8_ask_165 : decode cX8_ask 165 = .ok (.iload 4, 2) := by decide +kernel
theorem dX8_ask_167 : decode cX8_ask 167 = .ok (.iastore, 1) := by decide +kernel
theorem dX8_ask_168 : decode cX8_ask 168 = .ok (.aload_n 0, 1) := by decide +kernel
theorem dX8_ask_169 : decode cX8_ask 169 = .ok (.getfield 27, 3) := by decide +kernel
theorem dX8_ask_172 : decode cX8_ask 172 = .ok (.bipush 6, 2) := by decide +kernel
theorem dX8_ask_174 : decode cX8_ask 174 = .ok (.iload 5, 2) := by decide +kernel
theorem dX8_ask_176 : decode cX8_ask 176 = .ok (.iastore, 1) := by decide +kernel
theorem dX8_ask_177 : decode cX8_ask 177 = .ok (.aload_n 0, 1) := by decide +kernel
theorem dX8_ask_178 : decode cX8_ask 178 = .ok (.invokevirtual 241, 3) := by decide +kernel
theorem dX8_ask_181 : decode cX8_ask 181 = .ok (.aload_n 0, 1) := by decide +kernel
theorem dX8_ask_182 : decode cX8_ask 182 = .ok (.getfield 9, 3) := by decide +kernel
theorem dX8_ask_185 : decode cX8_ask 185 = .ok (.iconst 3, 1) := by decide +kernel
theorem dX8_ask_186 : decode cX8_ask 186 = .ok (.iaload, 1) := by decide +kernel
theorem dX8_ask_187 : decode cX8_ask 187 = .ok (.ireturn, 1) := by decide +kernel
theorem dX8_drop_0 : decode cX8_drop 0 = .ok (.aload_n 0, 1) := by decide +kernel
theorem dX8_drop_1 : decode cX8_drop 1 = .ok (.iload_n 1, 1) := by decide +kernel
theorem dX8_drop_2 : decode cX8_drop 2 = .ok (.invokevirtual 281, 3) := by decide +kernel
theorem dX8_drop_5 : decode cX8_drop 5 = .ok (.ifCond .ne 6, 3) := by decide +kernel
theorem dX8_drop_8 : decode cX8_drop 8 = .ok (.bipush (-2), 2) := by decide +kernel
theorem dX8_drop_10 : decode cX8_drop 10 = .ok (.ireturn, 1) := by decide +kernel
theorem dX8_drop_11 : decode cX8_drop 11 = .ok (.aload_n 0, 1) := by decide +kernel
theorem dX8_drop_12 : decode cX8_drop 12 = .ok (.invokevirtual 366, 3) := by decide +kernel
theorem dX8_drop_15 : decode cX8_drop 15 = .ok (.aload_n 0, 1) := by decide +kernel
theorem dX8_drop_16 : decode cX8_drop 16 = .ok (.iload_n 1, 1) := by decide +kernel
theorem dX8_drop_17 : decode cX8_drop 17 = .ok (.invokevirtual 376, 3) := by decide +kernel
theorem dX8_drop_20 : decode cX8_drop 20 = .ok (.aload_n 0, 1) := by decide +kernel
theorem dX8_drop_21 : decode cX8_drop 21 = .ok (.getfield 9, 3) := by decide +kernel
theorem dX8_drop_24 : decode cX8_drop 24 = .ok (.iconst 3, 1) := by decide +kernel
theorem dX8_drop_25 : decode cX8_drop 25 = .ok (.iaload, 1) := by decide +kernel
theorem dX8_drop_26 : decode cX8_drop 26 = .ok (.ireturn, 1) := by decide +kernel
theorem dX8_stays_0 : decode cX8_stays 0 = .ok (.aload_n 0, 1) := by decide +kernel
theorem dX8_stays_1 : decode cX8_stays 1 = .ok (.iload_n 1, 1) := by decide +kernel
theorem dX8_stays_2 : decode cX8_stays 2 = .ok (.invokevirtual 71, 3) := by decide +kernel
theorem dX8_stays_5 : decode cX8_stays 5 = .ok (.istore_n 3, 1) := by decide +kernel
theorem dX8_stays_6 : decode cX8_stays 6 = .ok (.iconst 0, 1) := by decide +kernel
theorem dX8_stays_7 : decode cX8_stays 7 = .ok (.istore 4, 2) := by decide +kernel
theorem dX8_stays_9 : decode cX8_stays 9 = .ok (.iload 4, 2) := by decide +kernel
theorem dX8_stays_11 : decode cX8_stays 11 = .ok (.bipush 12, 2) := by decide +kernel
theorem dX8_stays_13 : decode cX8_stays 13 = .ok (.if_icmp .ge 23, 3) := by decide +kernel
theorem dX8_stays_16 : decode cX8_stays 16 = .ok (.aload_n 0, 1) := by decide +kernel
theorem dX8_stays_17 : decode cX8_stays 17 = .ok (.iload_n 2, 1) := by decide +kernel
theorem dX8_stays_18 : decode cX8_stays 18 = .ok (.iload 4, 2) := by decide +kernel
theorem dX8_stays_20 : decode cX8_stays 20 = .ok (.aload_n 0, 1) := by decide +kernel
theorem dX8_stays_21 : decode cX8_stays 21 = .ok (.iload_n 1, 1) := by decide +kernel
theorem dX8_stays_22 : decode cX8_stays 22 = .ok (.iload 4, 2) := by decide +kernel
theorem dX8_stays_24 : decode cX8_stays 24 = .ok (.invokevirtual 67, 3) := by decide +kernel
theorem dX8_stays_27 : decode cX8_stays 27 = .ok (.invokevirtual 230, 3) := by decide +kernel
theorem dX8_stays_30 : decode cX8_stays 30 = .ok (.iinc 4 1, 3) := by decide +kernel
theorem dX8_stays_33 : decode cX8_stays 33 = .ok (.goto (-24), 3) := by decide +kernel
theorem dX8_stays_36 : decode cX8_stays 36 = .ok (.iconst 0, 1) := by decide +kernel
theorem dX8_stays_37 : decode cX8_stays 37 = .ok (.istore 4, 2) := by decide +kernel
theorem dX8_stays_39 : decode cX8_stays 39 = .ok (.iload 4, 2) := by decide +kernel
theorem dX8_stays_41 : decode cX8_stays 41 = .ok (.iconst 5, 1) := by decide +kernel
theorem dX8_stays_42 : decode cX8_stays 42 = .ok (.if_icmp .ge 29, 3) := by decide +kernel
theorem dX8_stays_45 : decode cX8_stays 45 = .ok (.aload_n 0, 1) := by decide +kernel
theorem dX8_stays_46 : decode cX8_stays 46 = .ok (.iload_n 2, 1) := by decide +kernel
theorem dX8_stays_47 : decode cX8_stays 47 = .ok (.bipush 7, 2) := by decide +kernel
theorem dX8_stays_49 : decode cX8_stays 49 = .ok (.iload 4, 2) := by decide +kernel
theorem dX8_stays_51 : decode cX8_stays 51 = .ok (.iadd, 1) := by decide +kernel
theorem dX8_stays_52 : decode cX8_stays 52 = .ok (.iload 4, 2) := by decide +kernel
theorem dX8_stays_54 : decode cX8_stays 54 = .ok (.ifCond .ne 7, 3) := by decide +kernel
theorem dX8_stays_57 : decode cX8_stays 57 = .ok (.iload_n 3, 1) := by decide +kernel
theorem dX8_stays_58 : decode cX8_stays 58 = .ok (.goto 4, 3) := by decide +kernel
theorem dX8_stays_61 : decode cX8_stays 61 = .ok (.iconst 0, 1) := by decide +kernel
theorem dX8_stays_62 : decode cX8_stays 62 = .ok (.invokevirtual 230, 3) := by decide +kernel
theorem dX8_stays_65 : decode cX8_stays 65 = .ok (.iinc 4 1, 3) := by decide +kernel
theorem dX8_stays_68 : decode cX8_stays 68 = .ok (.goto (-29), 3) := by decide +kernel
theorem dX8_stays_71 : decode cX8_stays 71 = .ok (.aload_n 0, 1) := by decide +kernel
theorem dX8_stays_72 : decode cX8_stays 72 = .ok (.iload_n 2, 1) := by decide +kernel
theorem dX8_stays_73 : decode cX8_stays 73 = .ok (.iconst 4, 1) := by decide +kernel
theorem dX8_stays_74 : decode cX8_stays 74 = .ok (.iconst 0, 1) := by decide +kernel
theorem dX8_stays_75 : decode cX8_stays 75 = .ok (.invokevirtual 230, 3) := by decide +kernel
theorem dX8_stays_78 : decode cX8_stays 78 = .ok (.return_, 1) := by decide +kernel
theorem dX8_ends_0 : decode cX8_ends 0 = .ok (.aload_n 0, 1) := by decide +kernel
theorem dX8_ends_1 : decode cX8_ends 1 = .ok (.invokevirtual 49, 3) := by decide +kernel
theorem dX8_ends_4 : decode cX8_ends 4 = .ok (.ifCond .ne 6, 3) := by decide +kernel
theorem dX8_ends_7 : decode cX8_ends 7 = .ok (.bipush (-2), 2) := by decide +kernel
theorem dX8_ends_9 : decode cX8_ends 9 = .ok (.ireturn, 1) := by decide +kernel
theorem dX8_ends_10 : decode cX8_ends 10 = .ok (.aload_n 0, 1) := by decide +kernel
theorem dX8_ends_11 : decode cX8_ends 11 = .ok (.getfield 9, 3) := by decide +kernel
theorem dX8_ends_14 : decode cX8_ends 14 = .ok (.iconst 4, 1) := by decide +kernel
theorem dX8_ends_15 : decode cX8_ends 15 = .ok (.iaload, 1) := by decide +kernel
theorem dX8_ends_16 : decode cX8_ends 16 = .ok (.aload_n 0, 1) := by decide +kernel
theorem dX8_ends_17 : decode cX8_ends 17 = .ok (.getfield 9, 3) := by decide +kernel
theorem dX8_ends_20 : decode cX8_ends 20 = .ok (.iconst 0, 1) := by decide +kernel
theorem dX8_ends_21 : decode cX8_ends 21 = .ok (.iaload, 1) := by decide +kernel
theorem dX8_ends_22 : decode cX8_ends 22 = .ok (.if_icmp .ge 6, 3) := by decide +kernel
theorem dX8_ends_25 : decode cX8_ends 25 = .ok (.bipush (-6), 2) := by decide +kernel
theorem dX8_ends_27 : decode cX8_ends 27 = .ok (.ireturn, 1) := by decide +kernel
theorem dX8_ends_28 : decode cX8_ends 28 = .ok (.aload_n 0, 1) := by decide +kernel
theorem dX8_ends_29 : decode cX8_ends 29 = .ok (.invokevirtual 366, 3) := by decide +kernel
theorem dX8_ends_32 : decode cX8_ends 32 = .ok (.iconst 0, 1) := by decide +kernel
theorem dX8_ends_33 : decode cX8_ends 33 = .ok (.istore_n 1, 1) := by decide +kernel
theorem dX8_ends_34 : decode cX8_ends 34 = .ok (.iconst 0, 1) := by decide +kernel
theorem dX8_ends_35 : decode cX8_ends 35 = .ok (.istore_n 2, 1) := by decide +kernel
theorem dX8_ends_36 : decode cX8_ends 36 = .ok (.iload_n 2, 1) := by decide +kernel
theorem dX8_ends_37 : decode cX8_ends 37 = .ok (.aload_n 0, 1) := by decide +kernel
theorem dX8_ends_38 : decode cX8_ends 38 = .ok (.getfield 9, 3) := by decide +kernel
theorem dX8_ends_41 : decode cX8_ends 41 = .ok (.iconst 2, 1) := by decide +kernel
theorem dX8_ends_42 : decode cX8_ends 42 = .ok (.iaload, 1) := by decide +kernel
theorem dX8_ends_43 : decode cX8_ends 43 = .ok (.if_icmp .ge 30, 3) := by decide +kernel
theorem dX8_ends_46 : decode cX8_ends 46 = .ok (.aload_n 0, 1) := by decide +kernel
theorem dX8_ends_47 : decode cX8_ends 47 = .ok (.iload_n 2, 1) := by decide +kernel
theorem dX8_ends_48 : decode cX8_ends 48 = .ok (.iconst 0, 1) := by decide +kernel
theorem dX8_ends_49 : decode cX8_ends 49 = .ok (.invokevirtual 302, 3) := by decide +kernel
theorem dX8_ends_52 : decode cX8_ends 52 = .ok (.ifCond .ne 6, 3) := by decide +kernel
theorem dX8_ends_55 : decode cX8_ends 55 = .ok (.goto 12, 3) := by decide +kernel
theorem dX8_ends_58 : decode cX8_ends 58 = .ok (.aload_n 0, 1) := by decide +kernel
theorem dX8_ends_59 : decode cX8_ends 59 = .ok (.iload_n 2, 1) := by decide +kernel
theorem dX8_ends_60 : decode cX8_ends 60 = .ok (.iload_n 1, 1) := by decide +kernel
theorem dX8_ends_61 : decode cX8_ends 61 = .ok (.invokevirtual 395, 3) := by decide +kernel
theorem dX8_ends_64 : decode cX8_ends 64 = .ok (.iinc 1 1, 3) := by decide +kernel
theorem dX8_ends_67 : decode cX8_ends 67 = .ok (.iinc 2 1, 3) := by decide +kernel
theorem dX8_ends_70 : decode cX8_ends 70 = .ok (.goto (-34), 3) := by decide +kernel
theorem dX8_ends_73 : decode cX8_ends 73 = .ok (.aload_n 0, 1) := by decide +kernel
theorem dX8_ends_74 : decode cX8_ends 74 = .ok (.getfield 9, 3) := by decide +kernel
theorem dX8_ends_77 : decode cX8_ends 77 = .ok (.iconst 2, 1) := by decide +kernel
theorem dX8_ends_78 : decode cX8_ends 78 = .ok (.iload_n 1, 1) := by decide +kernel
theorem dX8_ends_79 : decode cX8_ends 79 = .ok (.iastore, 1) := by decide +kernel
theorem dX8_ends_80 : decode cX8_ends 80 = .ok (.aload_n 0, 1) := by decide +kernel
theorem dX8_ends_81 : decode cX8_ends 81 = .ok (.getfield 9, 3) := by decide +kernel
theorem dX8_ends_84 : decode cX8_ends 84 = .ok (.iconst 3, 1) := by decide +kernel
theorem dX8_ends_85 : decode cX8_ends 85 = .ok (.iconst 0, 1) := by decide +kernel
theorem dX8_ends_86 : decode cX8_ends 86 = .ok (.iastore, 1) := by decide +kernel
theorem dX8_ends_87 : decode cX8_ends 87 = .ok (.aload_n 0, 1) := by decide +kernel
theorem dX8_ends_88 : decode cX8_ends 88 = .ok (.getfield 9, 3) := by decide +kernel
theorem dX8_ends_91 : decode cX8_ends 91 = .ok (.iconst 4, 1) := by decide +kernel
theorem dX8_ends_92 : decode cX8_ends 92 = .ok (.iconst 0, 1) := by decide +kernel
theorem dX8_ends_93 : decode cX8_ends 93 = .ok (.iastore, 1) := by decide +kernel
theorem dX8_ends_94 : decode cX8_ends 94 = .ok (.aload_n 0, 1) := by decide +kernel
theorem dX8_ends_95 : decode cX8_ends 95 = .ok (.getfield 9, 3) := by decide +kernel
theorem dX8_ends_98 : decode cX8_ends 98 = .ok (.iconst 5, 1) := by decide +kernel
theorem dX8_ends_99 : decode cX8_ends 99 = .ok (.dup2, 1) := by decide +kernel
theorem dX8_ends_100 : decode cX8_ends 100 = .ok (.iaload, 1) := by decide +kernel
theorem dX8_ends_101 : decode cX8_ends 101 = .ok (.iconst 1, 1) := by decide +kernel
theorem dX8_ends_102 : decode cX8_ends 102 = .ok (.iadd, 1) := by decide +kernel
theorem dX8_ends_103 : decode cX8_ends 103 = .ok (.iastore, 1) := by decide +kernel
theorem dX8_ends_104 : decode cX8_ends 104 = .ok (.iload_n 1, 1) := by decide +kernel
theorem dX8_ends_105 : decode cX8_ends 105 = .ok (.ireturn, 1) := by decide +kernel
theorem dX8_says_0 : decode cX8_says 0 = .ok (.aload_n 0, 1) := by decide +kernel
theorem dX8_says_1 : decode cX8_says 1 = .ok (.getfield 39, 3) := by decide +kernel
theorem dX8_says_4 : decode cX8_says 4 = .ok (.aload_n 0, 1) := by decide +kernel
theorem dX8_says_5 : decode cX8_says 5 = .ok (.getfield 398, 3) := by decide +kernel
theorem dX8_says_8 : decode cX8_says 8 = .ok (.iload_n 1, 1) := by decide +kernel
theorem dX8_says_9 : decode cX8_says 9 = .ok (.i2b, 1) := by decide +kernel
theorem dX8_says_10 : decode cX8_says 10 = .ok (.bastore, 1) := by decide +kernel
theorem dX8_says_11 : decode cX8_says 11 = .ok (.aload_n 0, 1) := by decide +kernel
theorem dX8_says_12 : decode cX8_says 12 = .ok (.dup, 1) := by decide +kernel
theorem dX8_says_13 : decode cX8_says 13 = .ok (.getfield 398, 3) := by decide +kernel
theorem dX8_says_16 : decode cX8_says 16 = .ok (.iconst 1, 1) := by decide +kernel
theorem dX8_says_17 : decode cX8_says 17 = .ok (.iadd, 1) := by decide +kernel
theorem dX8_says_18 : decode cX8_says 18 = .ok (.putfield 398, 3) := by decide +kernel
theorem dX8_says_21 : decode cX8_says 21 = .ok (.return_, 1) := by decide +kernel
theorem dX8_saysText_0 : decode cX8_saysText 0 = .ok (.iconst 0, 1) := by decide +kernel
theorem dX8_saysText_1 : decode cX8_saysText 1 = .ok (.istore_n 2, 1) := by decide +kernel
theorem dX8_saysText_2 : decode cX8_saysText 2 = .ok (.iload_n 2, 1) := by decide +kernel
theorem dX8_saysText_3 : decode cX8_saysText 3 = .ok (.aload_n 1, 1) := by decide +kernel
theorem dX8_saysText_4 : decode cX8_saysText 4 = .ok (.invokevirtual 138, 3) := by decide +kernel
theorem dX8_saysText_7 : decode cX8_saysText 7 = .ok (.if_icmp .ge 18, 3) := by decide +kernel
theorem dX8_saysText_10 : decode cX8_saysText 10 = .ok (.aload_n 0, 1) := by decide +kernel
theorem dX8_saysText_11 : decode cX8_saysText 11 = .ok (.aload_n 1, 1) := by decide +kernel
theorem dX8_saysText_12 : decode cX8_saysText 12 = .ok (.iload_n 2, 1) := by decide +kernel
theorem dX8_saysText_13 : decode cX8_saysText 13 = .ok (.invokevirtual 143, 3) := by decide +kernel
theorem dX8_saysText_16 : decode cX8_saysText 16 = .ok (.invokevirtual 401, 3) := by decide +kernel
theorem dX8_saysText_19 : decode cX8_saysText 19 = .ok (.iinc 2 1, 3) := by decide +kernel
theorem dX8_saysText_22 : decode cX8_saysText 22 = .ok (.goto (-20), 3) := by decide +kernel
theorem dX8_saysText_25 : decode cX8_saysText 25 = .ok (.return_, 1) := by decide +kernel
theorem dX8_saysNumber_0 : decode cX8_saysNumber 0 = .ok (.iload_n 1, 1) := by decide +kernel
theorem dX8_saysNumber_1 : decode cX8_saysNumber 1 = .ok (.bipush 10, 2) := by decide +kernel
theorem dX8_saysNumber_3 : decode cX8_saysNumber 3 = .ok (.if_icmp .lt 14, 3) := by decide +kernel
theorem dX8_saysNumber_6 : decode cX8_saysNumber 6 = .ok (.aload_n 0, 1) := by decide +kernel
theorem dX8_saysNumber_7 : decode cX8_saysNumber 7 = .ok (.bipush 48, 2) := by decide +kernel
theorem dX8_saysNumber_9 : decode cX8_saysNumber 9 = .ok (.iload_n 1, 1) := by decide +kernel
theorem dX8_saysNumber_10 : decode cX8_saysNumber 10 = .ok (.bipush 10, 2) := by decide +kernel
theorem dX8_saysNumber_12 : decode cX8_saysNumber 12 = .ok (.idiv, 1) := by decide +kernel
theorem dX8_saysNumber_13 : decode cX8_saysNumber 13 = .ok (.iadd, 1) := by decide +kernel
theorem dX8_saysNumber_14 : decode cX8_saysNumber 14 = .ok (.invokevirtual 401, 3) := by decide +kernel
theorem dX8_saysNumber_17 : decode cX8_saysNumber 17 = .ok (.aload_n 0, 1) := by decide +kernel
theorem dX8_saysNumber_18 : decode cX8_saysNumber 18 = .ok (.bipush 48, 2) := by decide +kernel
theorem dX8_saysNumber_20 : decode cX8_saysNumber 20 = .ok (.iload_n 1, 1) := by decide +kernel
theorem dX8_saysNumber_21 : decode cX8_saysNumber 21 = .ok (.bipush 10, 2) := by decide +kernel
theorem dX8_saysNumber_23 : decode cX8_saysNumber 23 = .ok (.irem, 1) := by decide +kernel
theorem dX8_saysNumber_24 : decode cX8_saysNumber 24 = .ok (.iadd, 1) := by decide +kernel
theorem dX8_saysNumber_25 : decode cX8_saysNumber 25 = .ok (.invokevirtual 401, 3) := by decide +kernel
theorem dX8_saysNumber_28 : decode cX8_saysNumber 28 = .ok (.return_, 1) := by decide +kernel
theorem dX8_saysName_0 : decode cX8_saysName 0 = .ok (.iconst 0, 1) := by decide +kernel
theorem dX8_saysName_1 : decode cX8_saysName 1 = .ok (.istore_n 2, 1) := by decide +kernel
theorem dX8_saysName_2 : decode cX8_saysName 2 = .ok (.iload_n 2, 1) := by decide +kernel
theorem dX8_saysName_3 : decode cX8_saysName 3 = .ok (.bipush 6, 2) := by decide +kernel
theorem dX8_saysName_5 : decode cX8_saysName 5 = .ok (.if_icmp .ge 47, 3) := by decide +kernel
theorem dX8_saysName_8 : decode cX8_saysName 8 = .ok (.aload_n 0, 1) := by decide +kernel
theorem dX8_saysName_9 : decode cX8_saysName 9 = .ok (.getfield 9, 3) := by decide +kernel
theorem dX8_saysName_12 : decode cX8_saysName 12 = .ok (.bipush 54, 2) := by decide +kernel
theorem dX8_saysName_14 : decode cX8_saysName 14 = .ok (.iload_n 1, 1) := by decide +kernel
theorem dX8_saysName_15 : decode cX8_saysName 15 = .ok (.iadd, 1) := by decide +kernel
theorem dX8_saysName_16 : decode cX8_saysName 16 = .ok (.iaload, 1) := by decide +kernel
theorem dX8_saysName_17 : decode cX8_saysName 17 = .ok (.iload_n 2, 1) := by decide +kernel
theorem dX8_saysName_18 : decode cX8_saysName 18 = .ok (.invokestatic 270, 3) := by decide +kernel
theorem dX8_saysName_21 : decode cX8_saysName 21 = .ok (.ifCond .le 25, 3) := by decide +kernel
theorem dX8_saysName_24 : decode cX8_saysName 24 = .ok (.aload_n 0, 1) := by decide +kernel
theorem dX8_saysName_25 : decode cX8_saysName 25 = .ok (.bipush 97, 2) := by decide +kernel
theorem dX8_saysName_27 : decode cX8_saysName 27 = .ok (.aload_n 0, 1) := by decide +kernel
theorem dX8_saysName_28 : decode cX8_saysName 28 = .ok (.getfield 9, 3) := by decide +kernel
theorem dX8_saysName_31 : decode cX8_saysName 31 = .ok (.bipush 54, 2) := by decide +kernel
theorem dX8_saysName_33 : decode cX8_saysName 33 = .ok (.iload_n 1, 1) := by decide +kernel
theorem dX8_saysName_34 : decode cX8_saysName 34 = .ok (.iadd, 1) := by decide +kernel
theorem dX8_saysName_35 : decode cX8_saysName 35 = .ok (.iaload, 1) := by decide +kernel
theorem dX8_saysName_36 : decode cX8_saysName 36 = .ok (.iload_n 2, 1) := by decide +kernel
theorem dX8_saysName_37 : decode cX8_saysName 37 = .ok (.invokestatic 270, 3) := by decide +kernel
theorem dX8_saysName_40 : decode cX8_saysName 40 = .ok (.iadd, 1) := by decide +kernel
theorem dX8_saysName_41 : decode cX8_saysName 41 = .ok (.iconst 1, 1) := by decide +kernel
theorem dX8_saysName_42 : decode cX8_saysName 42 = .ok (.isub, 1) := by decide +kernel
theorem dX8_saysName_43 : decode cX8_saysName 43 = .ok (.invokevirtual 401, 3) := by decide +kernel
theorem dX8_saysName_46 : decode cX8_saysName 46 = .ok (.iinc 2 1, 3) := by decide +kernel
theorem dX8_saysName_49 : decode cX8_saysName 49 = .ok (.goto (-47), 3) := by decide +kernel
theorem dX8_saysName_52 : decode cX8_saysName 52 = .ok (.return_, 1) := by decide +kernel
theorem dX8_saysCommon_0 : decode cX8_saysCommon 0 = .ok (.aload_n 0, 1) := by decide +kernel
theorem dX8_saysCommon_1 : decode cX8_saysCommon 1 = .ok (.aload_n 1, 1) := by decide +kernel
theorem dX8_saysCommon_2 : decode cX8_saysCommon 2 = .ok (.invokevirtual 404, 3) := by decide +kernel
theorem dX8_saysCommon_5 : decode cX8_saysCommon 5 = .ok (.aload_n 0, 1) := by decide +kernel
theorem dX8_saysCommon_6 : decode cX8_saysCommon 6 = .ok (.aload_n 0, 1) := by decide +kernel
theorem dX8_saysCommon_7 : decode cX8_saysCommon 7 = .ok (.getfield 9, 3) := by decide +kernel
theorem dX8_saysCommon_10 : decode cX8_saysCommon 10 = .ok (.iload_n 2, 1) := by decide +kernel
theorem dX8_saysCommon_11 : decode cX8_saysCommon 11 = .ok (.iaload, 1) := by decide +kernel
theorem dX8_saysCommon_12 : decode cX8_saysCommon 12 = .ok (.invokevirtual 407, 3) := by decide +kernel
theorem dX8_saysCommon_15 : decode cX8_saysCommon 15 = .ok (.aload_n 0, 1) := by decide +kernel
theorem dX8_saysCommon_16 : decode cX8_saysCommon 16 = .ok (.bipush 32, 2) := by decide +kernel
theorem dX8_saysCommon_18 : decode cX8_saysCommon 18 = .ok (.invokevirtual 401, 3) := by decide +kernel
theorem dX8_saysCommon_21 : decode cX8_saysCommon 21 = .ok (.aload_n 0, 1) := by decide +kernel
theorem dX8_saysCommon_22 : decode cX8_saysCommon 22 = .ok (.aload_n 0, 1) := by decide +kernel
theorem dX8_saysCommon_23 : decode cX8_saysCommon 23 = .ok (.getfield 9, 3) := by decide +kernel
theorem dX8_saysCommon_26 : decode cX8_saysCommon 26 = .ok (.iload_n 2, 1) := by decide +kernel
theorem dX8_saysCommon_27 : decode cX8_saysCommon 27 = .ok (.iconst 1, 1) := by decide +kernel
theorem dX8_saysCommon_28 : decode cX8_saysCommon 28 = .ok (.iadd, 1) := by decide +kernel
theorem dX8_saysCommon_29 : decode cX8_saysCommon 29 = .ok (.iaload, 1) := by decide +kernel
theorem dX8_saysCommon_30 : decode cX8_saysCommon 30 = .ok (.invokestatic 178, 3) := by decide +kernel
theorem dX8_saysCommon_33 : decode cX8_saysCommon 33 = .ok (.invokevirtual 404, 3) := by decide +kernel
theorem dX8_saysCommon_36 : decode cX8_saysCommon 36 = .ok (.aload_n 0, 1) := by decide +kernel
theorem dX8_saysCommon_37 : decode cX8_saysCommon 37 = .ok (.bipush 32, 2) := by decide +kernel
theorem dX8_saysCommon_39 : decode cX8_saysCommon 39 = .ok (.invokevirtual 401, 3) := by decide +kernel
theorem dX8_saysCommon_42 : decode cX8_saysCommon 42 = .ok (.aload_n 0, 1) := by decide +kernel
theorem dX8_saysCommon_43 : decode cX8_saysCommon 43 = .ok (.aload_n 0, 1) := by decide +kernel
theorem dX8_saysCommon_44 : decode cX8_saysCommon 44 = .ok (.getfield 9, 3) := by decide +kernel
theorem dX8_saysCommon_47 : decode cX8_saysCommon 47 = .ok (.iload_n 2, 1) := by decide +kernel
theorem dX8_saysCommon_48 : decode cX8_saysCommon 48 = .ok (.iconst 2, 1) := by decide +kernel
theorem dX8_saysCommon_49 : decode cX8_saysCommon 49 = .ok (.iadd, 1) := by decide +kernel
theorem dX8_saysCommon_50 : decode cX8_saysCommon 50 = .ok (.iaload, 1) := by decide +kernel
theorem dX8_saysCommon_51 : decode cX8_saysCommon 51 = .ok (.invokevirtual 410, 3) := by decide +kernel
theorem dX8_saysCommon_54 : decode cX8_saysCommon 54 = .ok (.aload_n 0, 1) := by decide +kernel
theorem dX8_saysCommon_55 : decode cX8_saysCommon 55 = .ok (.aload_n 0, 1) := by decide +kernel
theorem dX8_saysCommon_56 : decode cX8_saysCommon 56 = .ok (.getfield 9, 3) := by decide +kernel
theorem dX8_saysCommon_59 : decode cX8_saysCommon 59 = .ok (.iload_n 2, 1) := by decide +kernel
theorem dX8_saysCommon_60 : decode cX8_saysCommon 60 = .ok (.iconst 3, 1) := by decide +kernel
theorem dX8_saysCommon_61 : decode cX8_saysCommon 61 = .ok (.iadd, 1) := by decide +kernel
theorem dX8_saysCommon_62 : decode cX8_saysCommon 62 = .ok (.iaload, 1) := by decide +kernel
theorem dX8_saysCommon_63 : decode cX8_saysCommon 63 = .ok (.ifCond .ne 9, 3) := by decide +kernel
theorem dX8_saysCommon_66 : decode cX8_saysCommon 66 = .ok (.ldc_w 413, 3) := by decide +kernel
theorem dX8_saysCommon_69 : decode cX8_saysCommon 69 = .ok (.goto 6, 3) := by decide +kernel
theorem dX8_saysCommon_72 : decode cX8_saysCommon 72 = .ok (.ldc_w 415, 3) := by decide +kernel
theorem dX8_saysCommon_75 : decode cX8_saysCommon 75 = .ok (.invokevirtual 404, 3) := by decide +kernel
theorem dX8_saysCommon_78 : decode cX8_saysCommon 78 = .ok (.aload_n 0, 1) := by decide +kernel
theorem dX8_saysCommon_79 : decode cX8_saysCommon 79 = .ok (.aload_n 0, 1) := by decide +kernel
theorem dX8_saysCommon_80 : decode cX8_saysCommon 80 = .ok (.getfield 9, 3) := by decide +kernel
theorem dX8_saysCommon_83 : decode cX8_saysCommon 83 = .ok (.iload_n 2, 1) := by decide +kernel
theorem dX8_saysCommon_84 : decode cX8_saysCommon 84 = .ok (.iload_n 3, 1) := by decide +kernel
theorem dX8_saysCommon_85 : decode cX8_saysCommon 85 = .ok (.iadd, 1) := by decide +kernel
theorem dX8_saysCommon_86 : decode cX8_saysCommon 86 = .ok (.iaload, 1) := by decide +kernel
theorem dX8_saysCommon_87 : decode cX8_saysCommon 87 = .ok (.invokevirtual 410, 3) := by decide +kernel
theorem dX8_saysCommon_90 : decode cX8_saysCommon 90 = .ok (.aload_n 0, 1) := by decide +kernel
theorem dX8_saysCommon_91 : decode cX8_saysCommon 91 = .ok (.bipush 45, 2) := by decide +kernel
theorem dX8_saysCommon_93 : decode cX8_saysCommon 93 = .ok (.invokevirtual 401, 3) := by decide +kernel
theorem dX8_saysCommon_96 : decode cX8_saysCommon 96 = .ok (.aload_n 0, 1) := by decide +kernel
theorem dX8_saysCommon_97 : decode cX8_saysCommon 97 = .ok (.aload_n 0, 1) := by decide +kernel
theorem dX8_saysCommon_98 : decode cX8_saysCommon 98 = .ok (.getfield 9, 3) := by decide +kernel
theorem dX8_saysCommon_101 : decode cX8_saysCommon 101 = .ok (.iload_n 2, 1) := by decide +kernel
theorem dX8_saysCommon_102 : decode cX8_saysCommon 102 = .ok (.iload_n 3, 1) := by decide +kernel
theorem dX8_saysCommon_103 : decode cX8_saysCommon 103 = .ok (.iadd, 1) := by decide +kernel
theorem dX8_saysCommon_104 : decode cX8_saysCommon 104 = .ok (.iconst 1, 1) := by decide +kernel
theorem dX8_saysCommon_105 : decode cX8_saysCommon 105 = .ok (.iadd, 1) := by decide +kernel
theorem dX8_saysCommon_106 : decode cX8_saysCommon 106 = .ok (.iaload, 1) := by decide +kernel
theorem dX8_saysCommon_107 : decode cX8_saysCommon 107 = .ok (.invokevirtual 410, 3) := by decide +kernel
theorem dX8_saysCommon_110 : decode cX8_saysCommon 110 = .ok (.return_, 1) := by decide +kernel
theorem dX8_tell_0 : decode cX8_tell 0 = .ok (.aload_n 0, 1) := by decide +kernel
theorem dX8_tell_1 : decode cX8_tell 1 = .ok (.invokevirtual 49, 3) := by decide +kernel
theorem dX8_tell_4 : decode cX8_tell 4 = .ok (.ifCond .ne 6, 3) := by decide +kernel
theorem dX8_tell_7 : decode cX8_tell 7 = .ok (.bipush (-2), 2) := by decide +kernel
theorem dX8_tell_9 : decode cX8_tell 9 = .ok (.ireturn, 1) := by decide +kernel
theorem dX8_tell_10 : decode cX8_tell 10 = .ok (.aload_n 0, 1) := by decide +kernel
theorem dX8_tell_11 : decode cX8_tell 11 = .ok (.iconst 0, 1) := by decide +kernel
theorem dX8_tell_12 : decode cX8_tell 12 = .ok (.putfield 398, 3) := by decide +kernel
theorem dX8_tell_15 : decode cX8_tell 15 = .ok (.aload_n 0, 1) := by decide +kernel
theorem dX8_tell_16 : decode cX8_tell 16 = .ok (.ldc_w 417, 3) := by decide +kernel
theorem dX8_tell_19 : decode cX8_tell 19 = .ok (.invokevirtual 404, 3) := by decide +kernel
theorem dX8_tell_22 : decode cX8_tell 22 = .ok (.aload_n 0, 1) := by decide +kernel
theorem dX8_tell_23 : decode cX8_tell 23 = .ok (.aload_n 0, 1) := by decide +kernel
theorem dX8_tell_24 : decode cX8_tell 24 = .ok (.getfield 9, 3) := by decide +kernel
theorem dX8_tell_27 : decode cX8_tell 27 = .ok (.iconst 0, 1) := by decide +kernel
theorem dX8_tell_28 : decode cX8_tell 28 = .ok (.iaload, 1) := by decide +kernel
theorem dX8_tell_29 : decode cX8_tell 29 = .ok (.invokevirtual 410, 3) := by decide +kernel
theorem dX8_tell_32 : decode cX8_tell 32 = .ok (.aload_n 0, 1) := by decide +kernel
theorem dX8_tell_33 : decode cX8_tell 33 = .ok (.bipush 59, 2) := by decide +kernel
theorem dX8_tell_35 : decode cX8_tell 35 = .ok (.invokevirtual 401, 3) := by decide +kernel
theorem dX8_tell_38 : decode cX8_tell 38 = .ok (.iconst 0, 1) := by decide +kernel
theorem dX8_tell_39 : decode cX8_tell 39 = .ok (.istore_n 1, 1) := by decide +kernel
theorem dX8_tell_40 : decode cX8_tell 40 = .ok (.iload_n 1, 1) := by decide +kernel
theorem dX8_tell_41 : decode cX8_tell 41 = .ok (.bipush 24, 2) := by decide +kernel
theorem dX8_tell_43 : decode cX8_tell 43 = .ok (.if_icmp .ge 107, 3) := by decide +kernel
theorem dX8_tell_46 : decode cX8_tell 46 = .ok (.aload_n 0, 1) := by decide +kernel
theorem dX8_tell_47 : decode cX8_tell 47 = .ok (.getfield 9, 3) := by decide +kernel
theorem dX8_tell_50 : decode cX8_tell 50 = .ok (.bipush 6, 2) := by decide +kernel
theorem dX8_tell_52 : decode cX8_tell 52 = .ok (.iconst 2, 1) := by decide +kernel
theorem dX8_tell_53 : decode cX8_tell 53 = .ok (.iload_n 1, 1) := by decide +kernel
theorem dX8_tell_54 : decode cX8_tell 54 = .ok (.imul, 1) := by decide +kernel
theorem dX8_tell_55 : decode cX8_tell 55 = .ok (.iadd, 1) := by decide +kernel
theorem dX8_tell_56 : decode cX8_tell 56 = .ok (.iaload, 1) := by decide +kernel
theorem dX8_tell_57 : decode cX8_tell 57 = .ok (.iconst 4, 1) := by decide +kernel
theorem dX8_tell_58 : decode cX8_tell 58 = .ok (.if_icmp .ne 23, 3) := by decide +kernel
theorem dX8_tell_61 : decode cX8_tell 61 = .ok (.aload_n 0, 1) := by decide +kernel
theorem dX8_tell_62 : decode cX8_tell 62 = .ok (.getfield 9, 3) := by decide +kernel
theorem dX8_tell_65 : decode cX8_tell 65 = .ok (.bipush 6, 2) := by decide +kernel
theorem dX8_tell_67 : decode cX8_tell 67 = .ok (.iconst 2, 1) := by decide +kernel
theorem dX8_tell_68 : decode cX8_tell 68 = .ok (.iload_n 1, 1) := by decide +kernel
theorem dX8_tell_69 : decode cX8_tell 69 = .ok (.imul, 1) := by decide +kernel
theorem dX8_tell_70 : decode cX8_tell 70 = .ok (.iadd, 1) := by decide +kernel
theorem dX8_tell_71 : decode cX8_tell 71 = .ok (.iconst 1, 1) := by decide +kernel
theorem dX8_tell_72 : decode cX8_tell 72 = .ok (.iadd, 1) := by decide +kernel
theorem dX8_tell_73 : decode cX8_tell 73 = .ok (.iaload, 1) := by decide +kernel
theorem dX8_tell_74 : decode cX8_tell 74 = .ok (.iconst 4, 1) := by decide +kernel
theorem dX8_tell_75 : decode cX8_tell 75 = .ok (.if_icmp .ne 6, 3) := by decide +kernel
theorem dX8_tell_78 : decode cX8_tell 78 = .ok (.goto 66, 3) := by decide +kernel
theorem dX8_tell_81 : decode cX8_tell 81 = .ok (.aload_n 0, 1) := by decide +kernel
theorem dX8_tell_82 : decode cX8_tell 82 = .ok (.ldc_w 419, 3) := by decide +kernel
theorem dX8_tell_85 : decode cX8_tell 85 = .ok (.invokevirtual 404, 3) := by decide +kernel
theorem dX8_tell_88 : decode cX8_tell 88 = .ok (.aload_n 0, 1) := by decide +kernel
theorem dX8_tell_89 : decode cX8_tell 89 = .ok (.iload_n 1, 1) := by decide +kernel
theorem dX8_tell_90 : decode cX8_tell 90 = .ok (.invokevirtual 410, 3) := by decide +kernel
theorem dX8_tell_93 : decode cX8_tell 93 = .ok (.aload_n 0, 1) := by decide +kernel
theorem dX8_tell_94 : decode cX8_tell 94 = .ok (.bipush 32, 2) := by decide +kernel
theorem dX8_tell_96 : decode cX8_tell 96 = .ok (.invokevirtual 401, 3) := by decide +kernel
theorem dX8_tell_99 : decode cX8_tell 99 = .ok (.aload_n 0, 1) := by decide +kernel
theorem dX8_tell_100 : decode cX8_tell 100 = .ok (.aload_n 0, 1) := by decide +kernel
theorem dX8_tell_101 : decode cX8_tell 101 = .ok (.getfield 9, 3) := by decide +kernel
theorem dX8_tell_104 : decode cX8_tell 104 = .ok (.bipush 6, 2) := by decide +kernel
theorem dX8_tell_106 : decode cX8_tell 106 = .ok (.iconst 2, 1) := by decide +kernel
theorem dX8_tell_107 : decode cX8_tell 107 = .ok (.iload_n 1, 1) := by decide +kernel
theorem dX8_tell_108 : decode cX8_tell 108 = .ok (.imul, 1) := by decide +kernel
theorem dX8_tell_109 : decode cX8_tell 109 = .ok (.iadd, 1) := by decide +kernel
theorem dX8_tell_110 : decode cX8_tell 110 = .ok (.iaload, 1) := by decide +kernel
theorem dX8_tell_111 : decode cX8_tell 111 = .ok (.invokevirtual 410, 3) := by decide +kernel
theorem dX8_tell_114 : decode cX8_tell 114 = .ok (.aload_n 0, 1) := by decide +kernel
theorem dX8_tell_115 : decode cX8_tell 115 = .ok (.ldc_w 413, 3) := by decide +kernel
theorem dX8_tell_118 : decode cX8_tell 118 = .ok (.invokevirtual 404, 3) := by decide +kernel
theorem dX8_tell_121 : decode cX8_tell 121 = .ok (.aload_n 0, 1) := by decide +kernel
theorem dX8_tell_122 : decode cX8_tell 122 = .ok (.aload_n 0, 1) := by decide +kernel
theorem dX8_tell_123 : decode cX8_tell 123 = .ok (.getfield 9, 3) := by decide +kernel
theorem dX8_tell_126 : decode cX8_tell 126 = .ok (.bipush 6, 2) := by decide +kernel
theorem dX8_tell_128 : decode cX8_tell 128 = .ok (.iconst 2, 1) := by decide +kernel
theorem dX8_tell_129 : decode cX8_tell 129 = .ok (.iload_n 1, 1) := by decide +kernel
theorem dX8_tell_130 : decode cX8_tell 130 = .ok (.imul, 1) := by decide +kernel
theorem dX8_tell_131 : decode cX8_tell 131 = .ok (.iadd, 1) := by decide +kernel
theorem dX8_tell_132 : decode cX8_tell 132 = .ok (.iconst 1, 1) := by decide +kernel
theorem dX8_tell_133 : decode cX8_tell 133 = .ok (.iadd, 1) := by decide +kernel
theorem dX8_tell_134 : decode cX8_tell 134 = .ok (.iaload, 1) := by decide +kernel
theorem dX8_tell_135 : decode cX8_tell 135 = .ok (.invokevirtual 410, 3) := by decide +kernel
theorem dX8_tell_138 : decode cX8_tell 138 = .ok (.aload_n 0, 1) := by decide +kernel
theorem dX8_tell_139 : decode cX8_tell 139 = .ok (.bipush 59, 2) := by decide +kernel
theorem dX8_tell_141 : decode cX8_tell 141 = .ok (.invokevirtual 401, 3) := by decide +kernel
theorem dX8_tell_144 : decode cX8_tell 144 = .ok (.iinc 1 1, 3) := by decide +kernel
theorem dX8_tell_147 : decode cX8_tell 147 = .ok (.goto (-107), 3) := by decide +kernel
theorem dX8_tell_150 : decode cX8_tell 150 = .ok (.iconst 0, 1) := by decide +kernel
theorem dX8_tell_151 : decode cX8_tell 151 = .ok (.istore_n 1, 1) := by decide +kernel
theorem dX8_tell_152 : decode cX8_tell 152 = .ok (.iload_n 1, 1) := by decide +kernel
theorem dX8_tell_153 : decode cX8_tell 153 = .ok (.aload_n 0, 1) := by decide +kernel
theorem dX8_tell_154 : decode cX8_tell 154 = .ok (.getfield 9, 3) := by decide +kernel
theorem dX8_tell_157 : decode cX8_tell 157 = .ok (.iconst 1, 1) := by decide +kernel
theorem dX8_tell_158 : decode cX8_tell 158 = .ok (.iaload, 1) := by decide +kernel
theorem dX8_tell_159 : decode cX8_tell 159 = .ok (.if_icmp .ge 27, 3) := by decide +kernel
theorem dX8_tell_162 : decode cX8_tell 162 = .ok (.aload_n 0, 1) := by decide +kernel
theorem dX8_tell_163 : decode cX8_tell 163 = .ok (.ldc_w 421, 3) := by decide +kernel
theorem dX8_tell_166 : decode cX8_tell 166 = .ok (.invokevirtual 404, 3) := by decide +kernel
theorem dX8_tell_169 : decode cX8_tell 169 = .ok (.aload_n 0, 1) := by decide +kernel
theorem dX8_tell_170 : decode cX8_tell 170 = .ok (.iload_n 1, 1) := by decide +kernel
theorem dX8_tell_171 : decode cX8_tell 171 = .ok (.invokevirtual 407, 3) := by decide +kernel
theorem dX8_tell_174 : decode cX8_tell 174 = .ok (.aload_n 0, 1) := by decide +kernel
theorem dX8_tell_175 : decode cX8_tell 175 = .ok (.bipush 59, 2) := by decide +kernel
theorem dX8_tell_177 : decode cX8_tell 177 = .ok (.invokevirtual 401, 3) := by decide +kernel
theorem dX8_tell_180 : decode cX8_tell 180 = .ok (.iinc 1 1, 3) := by decide +kernel
theorem dX8_tell_183 : decode cX8_tell 183 = .ok (.goto (-31), 3) := by decide +kernel
theorem dX8_tell_186 : decode cX8_tell 186 = .ok (.iconst 0, 1) := by decide +kernel
theorem dX8_tell_187 : decode cX8_tell 187 = .ok (.istore_n 1, 1) := by decide +kernel
theorem dX8_tell_188 : decode cX8_tell 188 = .ok (.iload_n 1, 1) := by decide +kernel
theorem dX8_tell_189 : decode cX8_tell 189 = .ok (.aload_n 0, 1) := by decide +kernel
theorem dX8_tell_190 : decode cX8_tell 190 = .ok (.getfield 9, 3) := by decide +kernel
theorem dX8_tell_193 : decode cX8_tell 193 = .ok (.iconst 2, 1) := by decide +kernel
theorem dX8_tell_194 : decode cX8_tell 194 = .ok (.iaload, 1) := by decide +kernel
theorem dX8_tell_195 : decode cX8_tell 195 = .ok (.if_icmp .ge 45, 3) := by decide +kernel
theorem dX8_tell_198 : decode cX8_tell 198 = .ok (.aload_n 0, 1) := by decide +kernel
theorem dX8_tell_199 : decode cX8_tell 199 = .ok (.ldc_w 423, 3) := by decide +kernel
theorem dX8_tell_202 : decode cX8_tell 202 = .ok (.bipush 62, 2) := by decide +kernel
theorem dX8_tell_204 : decode cX8_tell 204 = .ok (.bipush 12, 2) := by decide +kernel
theorem dX8_tell_206 : decode cX8_tell 206 = .ok (.iload_n 1, 1) := by decide +kernel
theorem dX8_tell_207 : decode cX8_tell 207 = .ok (.imul, 1) := by decide +kernel
theorem dX8_tell_208 : decode cX8_tell 208 = .ok (.iadd, 1) := by decide +kernel
theorem dX8_tell_209 : decode cX8_tell 209 = .ok (.iconst 5, 1) := by decide +kernel
theorem dX8_tell_210 : decode cX8_tell 210 = .ok (.invokevirtual 425, 3) := by decide +kernel
theorem dX8_tell_213 : decode cX8_tell 213 = .ok (.aload_n 0, 1) := by decide +kernel
theorem dX8_tell_214 : decode cX8_tell 214 = .ok (.aload_n 0, 1) := by decide +kernel
theorem dX8_tell_215 : decode cX8_tell 215 = .ok (.iload_n 1, 1) := by decide +kernel
theorem dX8_tell_216 : decode cX8_tell 216 = .ok (.invokevirtual 382, 3) := by decide +kernel
theorem dX8_tell_219 : decode cX8_tell 219 = .ok (.ifCond .eq 9, 3) := by decide +kernel
theorem dX8_tell_222 : decode cX8_tell 222 = .ok (.ldc_w 429, 3) := by decide +kernel
theorem dX8_tell_225 : decode cX8_tell 225 = .ok (.goto 6, 3) := by decide +kernel
theorem dX8_tell_228 : decode cX8_tell 228 = .ok (.ldc_w 431, 3) := by decide +kernel
theorem dX8_tell_231 : decode cX8_tell 231 = .ok (.invokevirtual 404, 3) := by decide +kernel
theorem dX8_tell_234 : decode cX8_tell 234 = .ok (.iinc 1 1, 3) := by decide +kernel
theorem dX8_tell_237 : decode cX8_tell 237 = .ok (.goto (-49), 3) := by decide +kernel
theorem dX8_tell_240 : decode cX8_tell 240 = .ok (.iconst 0, 1) := by decide +kernel
theorem dX8_tell_241 : decode cX8_tell 241 = .ok (.istore_n 1, 1) := by decide +kernel
theorem dX8_tell_242 : decode cX8_tell 242 = .ok (.iload_n 1, 1) := by decide +kernel
theorem dX8_tell_243 : decode cX8_tell 243 = .ok (.aload_n 0, 1) := by decide +kernel
theorem dX8_tell_244 : decode cX8_tell 244 = .ok (.getfield 9, 3) := by decide +kernel
theorem dX8_tell_247 : decode cX8_tell 247 = .ok (.iconst 3, 1) := by decide +kernel
theorem dX8_tell_248 : decode cX8_tell 248 = .ok (.iaload, 1) := by decide +kernel
theorem dX8_tell_249 : decode cX8_tell 249 = .ok (.if_icmp .ge 69, 3) := by decide +kernel
theorem dX8_tell_252 : decode cX8_tell 252 = .ok (.aload_n 0, 1) := by decide +kernel
theorem dX8_tell_253 : decode cX8_tell 253 = .ok (.ldc_w 433, 3) := by decide +kernel
theorem dX8_tell_256 : decode cX8_tell 256 = .ok (.sipush 350, 3) := by decide +kernel
theorem dX8_tell_259 : decode cX8_tell 259 = .ok (.bipush 7, 2) := by decide +kernel
theorem dX8_tell_261 : decode cX8_tell 261 = .ok (.iload_n 1, 1) := by decide +kernel
theorem dX8_tell_262 : decode cX8_tell 262 = .ok (.imul, 1) := by decide +kernel
theorem dX8_tell_263 : decode cX8_tell 263 = .ok (.iadd, 1) := by decide +kernel
theorem dX8_tell_264 : decode cX8_tell 264 = .ok (.iconst 4, 1) := by decide +kernel
theorem dX8_tell_265 : decode cX8_tell 265 = .ok (.invokevirtual 425, 3) := by decide +kernel
theorem dX8_tell_268 : decode cX8_tell 268 = .ok (.aload_n 0, 1) := by decide +kernel
theorem dX8_tell_269 : decode cX8_tell 269 = .ok (.iload_n 1, 1) := by decide +kernel
theorem dX8_tell_270 : decode cX8_tell 270 = .ok (.bipush 6, 2) := by decide +kernel
theorem dX8_tell_272 : decode cX8_tell 272 = .ok (.invokevirtual 284, 3) := by decide +kernel
theorem dX8_tell_275 : decode cX8_tell 275 = .ok (.ifCond .le 10, 3) := by decide +kernel
theorem dX8_tell_278 : decode cX8_tell 278 = .ok (.aload_n 0, 1) := by decide +kernel
theorem dX8_tell_279 : decode cX8_tell 279 = .ok (.ldc_w 435, 3) := by decide +kernel
theorem dX8_tell_282 : decode cX8_tell 282 = .ok (.invokevirtual 404, 3) := by decide +kernel
theorem dX8_tell_285 : decode cX8_tell 285 = .ok (.aload_n 0, 1) := by decide +kernel
theorem dX8_tell_286 : decode cX8_tell 286 = .ok (.iload_n 1, 1) := by decide +kernel
theorem dX8_tell_287 : decode cX8_tell 287 = .ok (.bipush 6, 2) := by decide +kernel
theorem dX8_tell_289 : decode cX8_tell 289 = .ok (.invokevirtual 284, 3) := by decide +kernel
theorem dX8_tell_292 : decode cX8_tell 292 = .ok (.ifCond .le 14, 3) := by decide +kernel
theorem dX8_tell_295 : decode cX8_tell 295 = .ok (.aload_n 0, 1) := by decide +kernel
theorem dX8_tell_296 : decode cX8_tell 296 = .ok (.aload_n 0, 1) := by decide +kernel
theorem dX8_tell_297 : decode cX8_tell 297 = .ok (.iload_n 1, 1) := by decide +kernel
theorem dX8_tell_298 : decode cX8_tell 298 = .ok (.bipush 6, 2) := by decide +kernel
theorem dX8_tell_300 : decode cX8_tell 300 = .ok (.invokevirtual 284, 3) := by decide +kernel
theorem dX8_tell_303 : decode cX8_tell 303 = .ok (.invokevirtual 410, 3) := by decide +kernel
theorem dX8_tell_306 : decode cX8_tell 306 = .ok (.aload_n 0, 1) := by decide +kernel
theorem dX8_tell_307 : decode cX8_tell 307 = .ok (.bipush 59, 2) := by decide +kernel
theorem dX8_tell_309 : decode cX8_tell 309 = .ok (.invokevirtual 401, 3) := by decide +kernel
theorem dX8_tell_312 : decode cX8_tell 312 = .ok (.iinc 1 1, 3) := by decide +kernel
theorem dX8_tell_315 : decode cX8_tell 315 = .ok (.goto (-73), 3) := by decide +kernel
theorem dX8_tell_318 : decode cX8_tell 318 = .ok (.aload_n 0, 1) := by decide +kernel
theorem dX8_tell_319 : decode cX8_tell 319 = .ok (.getfield 398, 3) := by decide +kernel
theorem dX8_tell_322 : decode cX8_tell 322 = .ok (.ireturn, 1) := by decide +kernel
theorem dX8_octet_0 : decode cX8_octet 0 = .ok (.iload_n 1, 1) := by decide +kernel
theorem dX8_octet_1 : decode cX8_octet 1 = .ok (.i2l, 1) := by decide +kernel
theorem dX8_octet_2 : decode cX8_octet 2 = .ok (.lconst 0, 1) := by decide +kernel
theorem dX8_octet_3 : decode cX8_octet 3 = .ok (.aload_n 0, 1) := by decide +kernel
theorem dX8_octet_4 : decode cX8_octet 4 = .ok (.getfield 398, 3) := by decide +kernel
theorem dX8_octet_7 : decode cX8_octet 7 = .ok (.iconst 1, 1) := by decide +kernel
theorem dX8_octet_8 : decode cX8_octet 8 = .ok (.isub, 1) := by decide +kernel
theorem dX8_octet_9 : decode cX8_octet 9 = .ok (.i2l, 1) := by decide +kernel
theorem dX8_octet_10 : decode cX8_octet 10 = .ok (.invokestatic 45, 3) := by decide +kernel
theorem dX8_octet_13 : decode cX8_octet 13 = .ok (.ifCond .eq 12, 3) := by decide +kernel
theorem dX8_octet_16 : decode cX8_octet 16 = .ok (.aload_n 0, 1) := by decide +kernel
theorem dX8_octet_17 : decode cX8_octet 17 = .ok (.getfield 39, 3) := by decide +kernel
theorem dX8_octet_20 : decode cX8_octet 20 = .ok (.iload_n 1, 1) := by decide +kernel
theorem dX8_octet_21 : decode cX8_octet 21 = .ok (.baload, 1) := by decide +kernel
theorem dX8_octet_22 : decode cX8_octet 22 = .ok (.goto 4, 3) := by decide +kernel
theorem dX8_octet_25 : decode cX8_octet 25 = .ok (.iconst (-1), 1) := by decide +kernel
theorem dX8_octet_26 : decode cX8_octet 26 = .ok (.ireturn, 1) := by decide +kernel
theorem dJ6_bitCount_0f7a4_0 : decode cJ6_bitCount_0f7a4 0 = .ok (.iload_n 0, 1) := by decide +kernel
theorem dJ6_bitCount_0f7a4_1 : decode cJ6_bitCount_0f7a4 1 = .ok (.iload_n 0, 1) := by decide +kernel
theorem dJ6_bitCount_0f7a4_2 : decode cJ6_bitCount_0f7a4 2 = .ok (.iconst 1, 1) := by decide +kernel
theorem dJ6_bitCount_0f7a4_3 : decode cJ6_bitCount_0f7a4 3 = .ok (.iushr, 1) := by decide +kernel
theorem dJ6_bitCount_0f7a4_4 : decode cJ6_bitCount_0f7a4 4 = .ok (.ldc_w 265, 3) := by decide +kernel
theorem dJ6_bitCount_0f7a4_7 : decode cJ6_bitCount_0f7a4 7 = .ok (.iand, 1) := by decide +kernel
theorem dJ6_bitCount_0f7a4_8 : decode cJ6_bitCount_0f7a4 8 = .ok (.isub, 1) := by decide +kernel
theorem dJ6_bitCount_0f7a4_9 : decode cJ6_bitCount_0f7a4 9 = .ok (.istore_n 0, 1) := by decide +kernel
theorem dJ6_bitCount_0f7a4_10 : decode cJ6_bitCount_0f7a4 10 = .ok (.iload_n 0, 1) := by decide +kernel
theorem dJ6_bitCount_0f7a4_11 : decode cJ6_bitCount_0f7a4 11 = .ok (.ldc_w 266, 3) := by decide +kernel
theorem dJ6_bitCount_0f7a4_14 : decode cJ6_bitCount_0f7a4 14 = .ok (.iand, 1) := by decide +kernel
theorem dJ6_bitCount_0f7a4_15 : decode cJ6_bitCount_0f7a4 15 = .ok (.iload_n 0, 1) := by decide +kernel
theorem dJ6_bitCount_0f7a4_16 : decode cJ6_bitCount_0f7a4 16 = .ok (.iconst 2, 1) := by decide +kernel
theorem dJ6_bitCount_0f7a4_17 : decode cJ6_bitCount_0f7a4 17 = .ok (.iushr, 1) := by decide +kernel
theorem dJ6_bitCount_0f7a4_18 : decode cJ6_bitCount_0f7a4 18 = .ok (.ldc_w 266, 3) := by decide +kernel
theorem dJ6_bitCount_0f7a4_21 : decode cJ6_bitCount_0f7a4 21 = .ok (.iand, 1) := by decide +kernel
theorem dJ6_bitCount_0f7a4_22 : decode cJ6_bitCount_0f7a4 22 = .ok (.iadd, 1) := by decide +kernel
theorem dJ6_bitCount_0f7a4_23 : decode cJ6_bitCount_0f7a4 23 = .ok (.istore_n 0, 1) := by decide +kernel
theorem dJ6_bitCount_0f7a4_24 : decode cJ6_bitCount_0f7a4 24 = .ok (.iload_n 0, 1) := by decide +kernel
theorem dJ6_bitCount_0f7a4_25 : decode cJ6_bitCount_0f7a4 25 = .ok (.iload_n 0, 1) := by decide +kernel
theorem dJ6_bitCount_0f7a4_26 : decode cJ6_bitCount_0f7a4 26 = .ok (.iconst 4, 1) := by decide +kernel
theorem dJ6_bitCount_0f7a4_27 : decode cJ6_bitCount_0f7a4 27 = .ok (.iushr, 1) := by decide +kernel
theorem dJ6_bitCount_0f7a4_28 : decode cJ6_bitCount_0f7a4 28 = .ok (.iadd, 1) := by decide +kernel
theorem dJ6_bitCount_0f7a4_29 : decode cJ6_bitCount_0f7a4 29 = .ok (.ldc_w 267, 3) := by decide +kernel
theorem dJ6_bitCount_0f7a4_32 : decode cJ6_bitCount_0f7a4 32 = .ok (.iand, 1) := by decide +kernel
theorem dJ6_bitCount_0f7a4_33 : decode cJ6_bitCount_0f7a4 33 = .ok (.istore_n 0, 1) := by decide +kernel
theorem dJ6_bitCount_0f7a4_34 : decode cJ6_bitCount_0f7a4 34 = .ok (.iload_n 0, 1) := by decide +kernel
theorem dJ6_bitCount_0f7a4_35 : decode cJ6_bitCount_0f7a4 35 = .ok (.iload_n 0, 1) := by decide +kernel
theorem dJ6_bitCount_0f7a4_36 : decode cJ6_bitCount_0f7a4 36 = .ok (.bipush 8, 2) := by decide +kernel
theorem dJ6_bitCount_0f7a4_38 : decode cJ6_bitCount_0f7a4 38 = .ok (.iushr, 1) := by decide +kernel
theorem dJ6_bitCount_0f7a4_39 : decode cJ6_bitCount_0f7a4 39 = .ok (.iadd, 1) := by decide +kernel
theorem dJ6_bitCount_0f7a4_40 : decode cJ6_bitCount_0f7a4 40 = .ok (.istore_n 0, 1) := by decide +kernel
theorem dJ6_bitCount_0f7a4_41 : decode cJ6_bitCount_0f7a4 41 = .ok (.iload_n 0, 1) := by decide +kernel
theorem dJ6_bitCount_0f7a4_42 : decode cJ6_bitCount_0f7a4 42 = .ok (.iload_n 0, 1) := by decide +kernel
theorem dJ6_bitCount_0f7a4_43 : decode cJ6_bitCount_0f7a4 43 = .ok (.bipush 16, 2) := by decide +kernel
theorem dJ6_bitCount_0f7a4_45 : decode cJ6_bitCount_0f7a4 45 = .ok (.iushr, 1) := by decide +kernel
theorem dJ6_bitCount_0f7a4_46 : decode cJ6_bitCount_0f7a4 46 = .ok (.iadd, 1) := by decide +kernel
theorem dJ6_bitCount_0f7a4_47 : decode cJ6_bitCount_0f7a4 47 = .ok (.istore_n 0, 1) := by decide +kernel
theorem dJ6_bitCount_0f7a4_48 : decode cJ6_bitCount_0f7a4 48 = .ok (.iload_n 0, 1) := by decide +kernel
theorem dJ6_bitCount_0f7a4_49 : decode cJ6_bitCount_0f7a4 49 = .ok (.bipush 63, 2) := by decide +kernel
theorem dJ6_bitCount_0f7a4_51 : decode cJ6_bitCount_0f7a4 51 = .ok (.iand, 1) := by decide +kernel
theorem dJ6_bitCount_0f7a4_52 : decode cJ6_bitCount_0f7a4 52 = .ok (.ireturn, 1) := by decide +kernel
theorem dJ0_length_8abf5_0 : decode cJ0_length_8abf5 0 = .ok (.aload_n 0, 1) := by decide +kernel
theorem dJ0_length_8abf5_1 : decode cJ0_length_8abf5 1 = .ok (.getfield 9, 3) := by decide +kernel
theorem dJ0_length_8abf5_4 : decode cJ0_length_8abf5 4 = .ok (.arraylength, 1) := by decide +kernel
theorem dJ0_length_8abf5_5 : decode cJ0_length_8abf5 5 = .ok (.aload_n 0, 1) := by decide +kernel
theorem dJ0_length_8abf5_6 : decode cJ0_length_8abf5 6 = .ok (.invokevirtual 335, 3) := by decide +kernel
theorem dJ0_length_8abf5_9 : decode cJ0_length_8abf5 9 = .ok (.ishr, 1) := by decide +kernel
theorem dJ0_length_8abf5_10 : decode cJ0_length_8abf5 10 = .ok (.ireturn, 1) := by decide +kernel
theorem dJ0_charAt_5068e_0 : decode cJ0_charAt_5068e 0 = .ok (.aload_n 0, 1) := by decide +kernel
theorem dJ0_charAt_5068e_1 : decode cJ0_charAt_5068e 1 = .ok (.invokevirtual 492, 3) := by decide +kernel
theorem dJ0_charAt_5068e_4 : decode cJ0_charAt_5068e 4 = .ok (.ifCond .eq 12, 3) := by decide +kernel
theorem dJ0_charAt_5068e_7 : decode cJ0_charAt_5068e 7 = .ok (.aload_n 0, 1) := by decide +kernel
theorem dJ0_charAt_5068e_8 : decode cJ0_charAt_5068e 8 = .ok (.getfield 9, 3) := by decide +kernel
theorem dJ0_charAt_5068e_11 : decode cJ0_charAt_5068e 11 = .ok (.iload_n 1, 1) := by decide +kernel
theorem dJ0_charAt_5068e_12 : decode cJ0_charAt_5068e 12 = .ok (.invokestatic 495, 3) := by decide +kernel
theorem dJ0_charAt_5068e_15 : decode cJ0_charAt_5068e 15 = .ok (.ireturn, 1) := by decide +kernel
theorem dJ0_charAt_5068e_16 : decode cJ0_charAt_5068e 16 = .ok (.aload_n 0, 1) := by decide +kernel
theorem dJ0_charAt_5068e_17 : decode cJ0_charAt_5068e 17 = .ok (.getfield 9, 3) := by decide +kernel
theorem dJ0_charAt_5068e_20 : decode cJ0_charAt_5068e 20 = .ok (.iload_n 1, 1) := by decide +kernel
theorem dJ0_charAt_5068e_21 : decode cJ0_charAt_5068e 21 = .ok (.invokestatic 498, 3) := by decide +kernel
theorem dJ0_charAt_5068e_24 : decode cJ0_charAt_5068e 24 = .ok (.ireturn, 1) := by decide +kernel
theorem dJ0_coder_7d493_0 : decode cJ0_coder_7d493 0 = .ok (.getstatic 38, 3) := by decide +kernel
theorem dJ0_coder_7d493_3 : decode cJ0_coder_7d493 3 = .ok (.ifCond .eq 10, 3) := by decide +kernel
theorem dJ0_coder_7d493_6 : decode cJ0_coder_7d493 6 = .ok (.aload_n 0, 1) := by decide +kernel
theorem dJ0_coder_7d493_7 : decode cJ0_coder_7d493 7 = .ok (.getfield 15, 3) := by decide +kernel
theorem dJ0_coder_7d493_10 : decode cJ0_coder_7d493 10 = .ok (.goto 4, 3) := by decide +kernel
theorem dJ0_coder_7d493_13 : decode cJ0_coder_7d493 13 = .ok (.iconst 1, 1) := by decide +kernel
theorem dJ0_coder_7d493_14 : decode cJ0_coder_7d493 14 = .ok (.ireturn, 1) := by decide +kernel
theorem dJ0_isLatin1_aae02_0 : decode cJ0_isLatin1_aae02 0 = .ok (.getstatic 38, 3) := by decide +kernel
theorem dJ0_isLatin1_aae02_3 : decode cJ0_isLatin1_aae02 3 = .ok (.ifCond .eq 14, 3) := by decide +kernel
theorem dJ0_isLatin1_aae02_6 : decode cJ0_isLatin1_aae02 6 = .ok (.aload_n 0, 1) := by decide +kernel
theorem dJ0_isLatin1_aae02_7 : decode cJ0_isLatin1_aae02 7 = .ok (.getfield 15, 3) := by decide +kernel
theorem dJ0_isLatin1_aae02_10 : decode cJ0_isLatin1_aae02 10 = .ok (.ifCond .ne 7, 3) := by decide +kernel
theorem dJ0_isLatin1_aae02_13 : decode cJ0_isLatin1_aae02 13 = .ok (.iconst 1, 1) := by decide +kernel
theorem dJ0_isLatin1_aae02_14 : decode cJ0_isLatin1_aae02 14 = .ok (.goto 4, 3) := by decide +kernel
theorem dJ0_isLatin1_aae02_17 : decode cJ0_isLatin1_aae02 17 = .ok (.iconst 0, 1) := by decide +kernel
theorem dJ0_isLatin1_aae02_18 : decode cJ0_isLatin1_aae02 18 = .ok (.ireturn, 1) := by decide +kernel
theorem dJ0_checkIndex_df160_0 : decode cJ0_checkIndex_df160 0 = .ok (.iload_n 0, 1) := by decide +kernel
theorem dJ0_checkIndex_df160_1 : decode cJ0_checkIndex_df160 1 = .ok (.iload_n 1, 1) := by decide +kernel
theorem dJ0_checkIndex_df160_2 : decode cJ0_checkIndex_df160 2 = .ok (.getstatic 1053, 3) := by decide +kernel
theorem dJ0_checkIndex_df160_5 : decode cJ0_checkIndex_df160 5 = .ok (.invokestatic 1059, 3) := by decide +kernel
theorem dJ0_checkIndex_df160_8 : decode cJ0_checkIndex_df160 8 = .ok (.pop, 1) := by decide +kernel
theorem dJ0_checkIndex_df160_9 : decode cJ0_checkIndex_df160 9 = .ok (.return_, 1) := by decide +kernel
theorem dJ1_charAt_3b067_0 : decode cJ1_charAt_3b067 0 = .ok (.iload_n 1, 1) := by decide +kernel
theorem dJ1_charAt_3b067_1 : decode cJ1_charAt_3b067 1 = .ok (.aload_n 0, 1) := by decide +kernel
theorem dJ1_charAt_3b067_2 : decode cJ1_charAt_3b067 2 = .ok (.arraylength, 1) := by decide +kernel
theorem dJ1_charAt_3b067_3 : decode cJ1_charAt_3b067 3 = .ok (.invokestatic 9, 3) := by decide +kernel
theorem dJ1_charAt_3b067_6 : decode cJ1_charAt_3b067 6 = .ok (.aload_n 0, 1) := by decide +kernel
theorem dJ1_charAt_3b067_7 : decode cJ1_charAt_3b067 7 = .ok (.iload_n 1, 1) := by decide +kernel
theorem dJ1_charAt_3b067_8 : decode cJ1_charAt_3b067 8 = .ok (.baload, 1) := by decide +kernel
theorem dJ1_charAt_3b067_9 : decode cJ1_charAt_3b067 9 = .ok (.sipush 255, 3) := by decide +kernel
theorem dJ1_charAt_3b067_12 : decode cJ1_charAt_3b067 12 = .ok (.iand, 1) := by decide +kernel
theorem dJ1_charAt_3b067_13 : decode cJ1_charAt_3b067 13 = .ok (.i2c, 1) := by decide +kernel
theorem dJ1_charAt_3b067_14 : decode cJ1_charAt_3b067 14 = .ok (.ireturn, 1) := by decide +kernel
theorem dJ3_checkIndex_8e157_0 : decode cJ3_checkIndex_8e157 0 = .ok (.iload_n 0, 1) := by decide +kernel
theorem dJ3_checkIndex_8e157_1 : decode cJ3_checkIndex_8e157 1 = .ok (.ifCond .lt 8, 3) := by decide +kernel
theorem dJ3_checkIndex_8e157_4 : decode cJ3_checkIndex_8e157 4 = .ok (.iload_n 0, 1) := by decide +kernel
theorem dJ3_checkIndex_8e157_5 : decode cJ3_checkIndex_8e157 5 = .ok (.iload_n 1, 1) := by decide +kernel
theorem dJ3_checkIndex_8e157_6 : decode cJ3_checkIndex_8e157 6 = .ok (.if_icmp .lt 10, 3) := by decide +kernel
theorem dJ3_checkIndex_8e157_9 : decode cJ3_checkIndex_8e157 9 = .ok (.aload_n 2, 1) := by decide +kernel
theorem dJ3_checkIndex_8e157_10 : decode cJ3_checkIndex_8e157 10 = .ok (.iload_n 0, 1) := by decide +kernel
theorem dJ3_checkIndex_8e157_11 : decode cJ3_checkIndex_8e157 11 = .ok (.iload_n 1, 1) := by decide +kernel
theorem dJ3_checkIndex_8e157_12 : decode cJ3_checkIndex_8e157 12 = .ok (.invokestatic 95, 3) := by decide +kernel
theorem dJ3_checkIndex_8e157_15 : decode cJ3_checkIndex_8e157 15 = .ok (.athrow, 1) := by decide +kernel
theorem dJ3_checkIndex_8e157_16 : decode cJ3_checkIndex_8e157 16 = .ok (.iload_n 0, 1) := by decide +kernel
theorem dJ3_checkIndex_8e157_17 : decode cJ3_checkIndex_8e157 17 = .ok (.ireturn, 1) := by decide +kernel
