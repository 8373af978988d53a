theorem dX8_ask_160 : decode cX8_ask 160 = .ok (.aload_n 0, 1) := by decide +kernel
theorem dX8_ask_161 : decode cX8_ask 161 = .ok (.getfield 27, 3) := by decide +kernel
theorem dX8_ask_164 : decode cX8_ask 164 = .ok (.iconst 5, 1) := by decide +kernel
theorem dX8_ask_165 : decode cX8_ask 165 = .ok (.iload 4, 2) := by decide +kernel
theorem dX8_ask_167 : decode cX8_ask 167 = .ok (.iastore, 1) := by decide +kernel
theorem dX8_ask_168 : decode cX8_ask 168 = .ok (.aload_n 0, 1) := by decide +kernel
theorem dX8_ask_169 : decode cX8_ask 169 = .ok (.getfield 27, 3) := by decide +kernel
theorem dX8_ask_172 : decode cX8_ask 172 = .ok (.bipush 6, 2) := by decide +kernel
theorem dX8_ask_174 : decode cX8_ask 174 = .ok (.iload 5, 2) := by decide +kernel
theorem dX8_ask_176 : decode cX8_ask 176 = .ok (.iastore, 1) := by decide +kernel
theorem dX8_ask_177 : decode cX8_ask 177 = .ok (.aload_n 0, 1) := by decide +kernel
theorem dX8_ask_178 : decode cX8_ask 178 = .ok (.invokevirtual 241, 3) := by decide +kernel
theorem dX8_ask_181 : decode cX8_ask 181 = .ok (.aload_n 0, 1) := by decide +kernel
theorem dX8_ask_182 : decode cX8_ask 182 = .ok (.getfield 9, 3) := by decide +kernel
theorem dX8_ask_185 : decode cX8_ask 185 = .ok (.iconst 3, 1) := by decide +kernel
theorem dX8_ask_186 : decode cX8_ask 186 = .ok (.iaload, 1) := by decide +kernel
theorem dX8_ask_187 : decode cX8_ask 187 = .ok (.ireturn, 1) := by decide +kernel
theorem dX8_drop_0 : decode cX8_drop 0 = .ok (.aload_n 0, 1) := by decide +kernel
theorem dX8_drop_1 : decode cX8_drop 1 = .ok (.iload_n 1, 1) := by decide +kernel
theorem dX8_drop_2 : decode cX8_drop 2 = .ok (.invokevirtual 281, 3) := by decide +kernel
theorem dX8_drop_5 : decode cX8_drop 5 = .ok (.ifCond .ne 6, 3) := by decide +kernel
theorem dX8_drop_8 : decode cX8_drop 8 = .ok (.bipush (-2), 2) := by decide +kernel
theorem dX8_drop_10 : decode cX8_drop 10 = .ok (.ireturn, 1) := by decide +kernel
theorem dX8_drop_11 : decode cX8_drop 11 = .ok (.aload_n 0, 1) := by decide +kernel
theorem dX8_drop_12 : decode cX8_drop 12 = .ok (.invokevirtual 366, 3) := by decide +kernel
theorem dX8_drop_15 : decode cX8_drop 15 = .ok (.aload_n 0, 1) := by decide +kernel
theorem dX8_drop_16 : decode cX8_drop 16 = .ok (.iload_n 1, 1) := by decide +kernel
theorem dX8_drop_17 : decode cX8_drop 17 = .ok (.invokevirtual 376, 3) := by decide +kernel
theorem dX8_drop_20 : decode cX8_drop 20 = .ok (.aload_n 0, 1) := by decide +kernel
theorem dX8_drop_21 : decode cX8_drop 21 = .ok (.getfield 9, 3) := by decide +kernel
theorem dX8_drop_24 : decode cX8_drop 24 = .ok (.iconst 3, 1) := by decide +kernel
theorem dX8_drop_25 : decode cX8_drop 25 = .ok (.iaload, 1) := by decide +kernel
theorem dX8_drop_26 : decode cX8_drop 26 = .ok (.ireturn, 1) := by decide +kernel
theorem dX8_stays_0 : decode cX8_stays 0 = .ok (.aload_n 0, 1) := by decide +kernel
theorem dX8_stays_1 : decode cX8_stays 1 = .ok (.iload_n 1, 1) := by decide +kernel
theorem dX8_stays_2 : decode cX8_stays 2 = .ok (.invokevirtual 71, 3) := by decide +kernel
theorem dX8_stays_5 : decode cX8_stays 5 = .ok (.istore_n 3, 1) := by decide +kernel
theorem dX8_stays_6 : decode cX8_stays 6 = .ok (.iconst 0, 1) := by decide +kernel
theorem dX8_stays_7 : decode cX8_stays 7 = .ok (.istore 4, 2) := by decide +kernel
theorem dX8_stays_9 : decode cX8_stays 9 = .ok (.iload 4, 2) := by decide +kernel
theorem dX8_stays_11 : decode cX8_stays 11 = .ok (.bipush 12, 2) := by decide +kernel
theorem dX8_stays_13 : decode cX8_stays 13 = .ok (.if_icmp .ge 23, 3) := by decide +kernel
theorem dX8_stays_16 : decode cX8_stays 16 = .ok (.aload_n 0, 1) := by decide +kernel
theorem dX8_stays_17 : decode cX8_stays 17 = .ok (.iload_n 2, 1) := by decide +kernel
theorem dX8_stays_18 : decode cX8_stays 18 = .ok (.iload 4, 2) := by decide +kernel
theorem dX8_stays_20 : decode cX8_stays 20 = .ok (.aload_n 0, 1) := by decide +kernel
theorem dX8_stays_21 : decode cX8_stays 21 = .ok (.iload_n 1, 1) := by decide +kernel
theorem dX8_stays_22 : decode cX8_stays 22 = .ok (.iload 4, 2) := by decide +kernel
theorem dX8_stays_24 : decode cX8_stays 24 = .ok (.invokevirtual 67, 3) := by decide +kernel
theorem dX8_stays_27 : decode cX8_stays 27 = .ok (.invokevirtual 230, 3) := by decide +kernel
theorem dX8_stays_30 : decode cX8_stays 30 = .ok (.iinc 4 1, 3) := by decide +kernel
theorem dX8_stays_33 : decode cX8_stays 33 = .ok (.goto (-24), 3) := by decide +kernel
theorem dX8_stays_36 : decode cX8_stays 36 = .ok (.iconst 0, 1) := by decide +kernel
theorem dX8_stays_37 : decode cX8_stays 37 = .ok (.istore 4, 2) := by decide +kernel
theorem dX8_stays_39 : decode cX8_stays 39 = .ok (.iload 4, 2) := by decide +kernel
theorem dX8_stays_41 : decode cX8_stays 41 = .ok (.iconst 5, 1) := by decide +kernel
theorem dX8_stays_42 : decode cX8_stays 42 = .ok (.if_icmp .ge 29, 3) := by decide +kernel
theorem dX8_stays_45 : decode cX8_stays 45 = .ok (.aload_n 0, 1) := by decide +kernel
theorem dX8_stays_46 : decode cX8_stays 46 = .ok (.iload_n 2, 1) := by decide +kernel
theorem dX8_stays_47 : decode cX8_stays 47 = .ok (.bipush 7, 2) := by decide +kernel
theorem dX8_stays_49 : decode cX8_stays 49 = .ok (.iload 4, 2) := by decide +kernel
theorem dX8_stays_51 : decode cX8_stays 51 = .ok (.iadd, 1) := by decide +kernel
theorem dX8_stays_52 : decode cX8_stays 52 = .ok (.iload 4, 2) := by decide +kernel
theorem dX8_stays_54 : decode cX8_stays 54 = .ok (.ifCond .ne 7, 3) := by decide +kernel
theorem dX8_stays_57 : decode cX8_stays 57 = .ok (.iload_n 3, 1) := by decide +kernel
theorem dX8_stays_58 : decode cX8_stays 58 = .ok (.goto 4, 3) := by decide +kernel
theorem dX8_stays_61 : decode cX8_stays 61 = .ok (.iconst 0, 1) := by decide +kernel
theorem dX8_stays_62 : decode cX8_stays 62 = .ok (.invokevirtual 230, 3) := by decide +kernel
theorem dX8_stays_65 : decode cX8_stays 65 = .ok (.iinc 4 1, 3) := by decide +kernel
theorem dX8_stays_68 : decode cX8_stays 68 = .ok (.goto (-29), 3) := by decide +kernel
theorem dX8_stays_71 : decode cX8_stays 71 = .ok (.aload_n 0, 1) := by decide +kernel
theorem dX8_stays_72 : decode cX8_stays 72 = .ok (.iload_n 2, 1) := by decide +kernel
theorem dX8_stays_73 : decode cX8_stays 73 = .ok (.iconst 4, 1) := by decide +kernel
theorem dX8_stays_74 : decode cX8_stays 74 = .ok (.iconst 0, 1) := by decide +kernel
theorem dX8_stays_75 : decode cX8_stays 75 = .ok (.invokevirtual 230, 3) := by decide +kernel
theorem dX8_stays_78 : decode cX8_stays 78 = .ok (.return_, 1) := by decide +kernel
theorem dX8_ends_0 : decode cX8_ends 0 = .ok (.aload_n 0, 1) := by decide +kernel
theorem dX8_ends_1 : decode cX8_ends 1 = .ok (.invokevirtual 49, 3) := by decide +kernel
theorem dX8_ends_4 : decode cX8_ends 4 = .ok (.ifCond .ne 6, 3) := by decide +kernel
theorem dX8_ends_7 : decode cX8_ends 7 = .ok (.bipush (-2), 2) := by decide +kernel
theorem dX8_ends_9 : decode cX8_ends 9 = .ok (.ireturn, 1) := by decide +kernel
theorem dX8_ends_10 : decode cX8_ends 10 = .ok (.aload_n 0, 1) := by decide +kernel
theorem dX8_ends_11 : decode cX8_ends 11 = .ok (.getfield 9, 3) := by decide +kernel
theorem dX8_ends_14 : decode cX8_ends 14 = .ok (.iconst 4, 1) := by decide +kernel
theorem dX8_ends_15 : decode cX8_ends 15 = .ok (.iaload, 1) := by decide +kernel
theorem dX8_ends_16 : decode cX8_ends 16 = .ok (.aload_n 0, 1) := by decide +kernel
theorem dX8_ends_17 : decode cX8_ends 17 = .ok (.getfield 9, 3) := by decide +kernel
theorem dX8_ends_20 : decode cX8_ends 20 = .ok (.iconst 0, 1) := by decide +kernel
theorem dX8_ends_21 : decode cX8_ends 21 = .ok (.iaload, 1) := by decide +kernel
theorem dX8_ends_22 : decode cX8_ends 22 = .ok (.if_icmp .ge 6, 3) := by decide +kernel
theorem dX8_ends_25 : decode cX8_ends 25 = .ok (.bipush (-6), 2) := by decide +kernel
theorem dX8_ends_27 : decode cX8_ends 27 = .ok (.ireturn, 1) := by decide +kernel
theorem dX8_ends_28 : decode cX8_ends 28 = .ok (.aload_n 0, 1) := by decide +kernel
theorem dX8_ends_29 : decode cX8_ends 29 = .ok (.invokevirtual 366, 3) := by decide +kernel
theorem dX8_ends_32 : decode cX8_ends 32 = .ok (.iconst 0, 1) := by decide +kernel
theorem dX8_ends_33 : decode cX8_ends 33 = .ok (.istore_n 1, 1) := by decide +kernel
theorem dX8_ends_34 : decode cX8_ends 34 = .ok (.iconst 0, 1) := by decide +kernel
theorem dX8_ends_35 : decode cX8_ends 35 = .ok (.istore_n 2, 1) := by decide +kernel
theorem dX8_ends_36 : decode cX8_ends 36 = .ok (.iload_n 2, 1) := by decide +kernel
theorem dX8_ends_37 : decode cX8_ends 37 = .ok (.aload_n 0, 1) := by decide +kernel
theorem dX8_ends_38 : decode cX8_ends 38 = .ok (.getfield 9, 3) := by decide +kernel
theorem dX8_ends_41 : decode cX8_ends 41 = .ok (.iconst 2, 1) := by decide +kernel
theorem dX8_ends_42 : decode cX8_ends 42 = .ok (.iaload, 1) := by decide +kernel
theorem dX8_ends_43 : decode cX8_ends 43 = .ok (.if_icmp .ge 30, 3) := by decide +kernel
theorem dX8_ends_46 : decode cX8_ends 46 = .ok (.aload_n 0, 1) := by decide +kernel
theorem dX8_ends_47 : decode cX8_ends 47 = .ok (.iload_n 2, 1) := by decide +kernel
theorem dX8_ends_48 : decode cX8_ends 48 = .ok (.iconst 0, 1) := by decide +kernel
theorem dX8_ends_49 : decode cX8_ends 49 = .ok (.invokevirtual 302, 3) := by decide +kernel
theorem dX8_ends_52 : decode cX8_ends 52 = .ok (.ifCond .ne 6, 3) := by decide +kernel
theorem dX8_ends_55 : decode cX8_ends 55 = .ok (.goto 12, 3) := by decide +kernel
theorem dX8_ends_58 : decode cX8_ends 58 = .ok (.aload_n 0, 1) := by decide +kernel
theorem dX8_ends_59 : decode cX8_ends 59 = .ok (.iload_n 2, 1) := by decide +kernel
theorem dX8_ends_60 : decode cX8_ends 60 = .ok (.iload_n 1, 1) := by decide +kernel
theorem dX8_ends_61 : decode cX8_ends 61 = .ok (.invokevirtual 395, 3) := by decide +kernel
theorem dX8_ends_64 : decode cX8_ends 64 = .ok (.iinc 1 1, 3) := by decide +kernel
theorem dX8_ends_67 : decode cX8_ends 67 = .ok (.iinc 2 1, 3) := by decide +kernel
theorem dX8_ends_70 : decode cX8_ends 70 = .ok (.goto (-34), 3) := by decide +kernel
theorem dX8_ends_73 : decode cX8_ends 73 = .ok (.aload_n 0, 1) := by decide +kernel
theorem dX8_ends_74 : decode cX8_ends 74 = .ok (.getfield 9, 3) := by decide +kernel
theorem dX8_ends_77 : decode cX8_ends 77 = .ok (.iconst 2, 1) := by decide +kernel
theorem dX8_ends_78 : decode cX8_ends 78 = .ok (.iload_n 1, 1) := by decide +kernel
theorem dX8_ends_79 : decode cX8_ends 79 = .ok (.iastore, 1) := by decide +kernel
theorem dX8_ends_80 : decode cX8_ends 80 = .ok (.aload_n 0, 1) := by decide +kernel
theorem dX8_ends_81 : decode cX8_ends 81 = .ok (.getfield 9, 3) := by decide +kernel
theorem dX8_ends_84 : decode cX8_ends 84 = .ok (.iconst 3, 1) := by decide +kernel
theorem dX8_ends_85 : decode cX8_ends 85 = .ok (.iconst 0, 1) := by decide +kernel
theorem dX8_ends_86 : decode cX8_ends 86 = .ok (.iastore, 1) := by decide +kernel
theorem dX8_ends_87 : decode cX8_ends 87 = .ok (.aload_n 0, 1) := by decide +kernel
theorem dX8_ends_88 : decode cX8_ends 88 = .ok (.getfield 9, 3) := by decide +kernel
theorem dX8_ends_91 : decode cX8_ends 91 = .ok (.iconst 4, 1) := by decide +kernel
theorem dX8_ends_92 : decode cX8_ends 92 = .ok (.iconst 0, 1) := by decide +kernel
theorem dX8_ends_93 : decode cX8_ends 93 = .ok (.iastore, 1) := by decide +kernel
theorem dX8_ends_94 : decode cX8_ends 94 = .ok (.aload_n 0, 1) := by decide +kernel
theorem dX8_ends_95 : decode cX8_ends 95 = .ok (.getfield 9, 3) := by decide +kernel
theorem dX8_ends_98 : decode cX8_ends 98 = .ok (.iconst 5, 1) := by decide +kernel
theorem dX8_ends_99 : decode cX8_ends 99 = .ok (.dup2, 1) := by decide +kernel
theorem dX8_ends_100 : decode cX8_ends 100 = .ok (.iaload, 1) := by decide +kernel
theorem dX8_ends_101 : decode cX8_ends 101 = .ok (.iconst 1, 1) := by decide +kernel
theorem dX8_ends_102 : decode cX8_ends 102 = .ok (.iadd, 1) := by decide +kernel
theorem dX8_ends_103 : decode cX8_ends 103 = .ok (.iastore, 1) := by decide +kernel
theorem dX8_ends_104 : decode cX8_ends 104 = .ok (.iload_n 1, 1) := by decide +kernel
theorem dX8_ends_105 : decode cX8_ends 105 = .ok (.ireturn, 1) := by decide +kernel
theorem dX8_says_0 : decode cX8_says 0 = .ok (.aload_n 0, 1) := by decide +kernel
theorem dX8_says_1 : decode cX8_says 1 = .ok (.getfield 39, 3) := by decide +kernel
theorem dX8_says_4 : decode cX8_says 4 = .ok (.aload_n 0, 1) := by decide +kernel
theorem dX8_says_5 : decode cX8_says 5 = .ok (.getfield 398, 3) := by decide +kernel
theorem dX8_says_8 : decode cX8_says 8 = .ok (.iload_n 1, 1) := by decide +kernel
theorem dX8_says_9 : decode cX8_says 9 = .ok (.i2b, 1) := by decide +kernel
theorem dX8_says_10 : decode cX8_says 10 = .ok (.bastore, 1) := by decide +kernel
theorem dX8_says_11 : decode cX8_says 11 = .ok (.aload_n 0, 1) := by decide +kernel
theorem dX8_says_12 : decode cX8_says 12 = .ok (.dup, 1) := by decide +kernel
theorem dX8_says_13 : decode cX8_says 13 = .ok (.getfield 398, 3) := by decide +kernel
theorem dX8_says_16 : decode cX8_says 16 = .ok (.iconst 1, 1) := by decide +kernel
theorem dX8_says_17 : decode cX8_says 17 = .ok (.iadd, 1) := by decide +kernel
theorem dX8_says_18 : decode cX8_says 18 = .ok (.putfield 398, 3) := by decide +kernel
theorem dX8_says_21 : decode cX8_says 21 = .ok (.return_, 1) := by decide +kernel
theorem dX8_saysText_0 : decode cX8_saysText 0 = .ok (.iconst 0, 1) := by decide +kernel
theorem dX8_saysText_1 : decode cX8_saysText 1 = .ok (.istore_n 2, 1) := by decide +kernel
theorem dX8_saysText_2 : decode cX8_saysText 2 = .ok (.iload_n 2, 1) := by decide +kernel
theorem dX8_saysText_3 : decode cX8_saysText 3 = .ok (.aload_n 1, 1) := by decide +kernel
theorem dX8_saysText_4 : decode cX8_saysText 4 = .ok (.invokevirtual 138, 3) := by decide +kernel
theorem dX8_saysText_7 : decode cX8_saysText 7 = .ok (.if_icmp .ge 18, 3) := by decide +kernel
theorem dX8_saysText_10 : decode cX8_saysText 10 = .ok (.aload_n 0, 1) := by decide +kernel
theorem dX8_saysText_11 : decode cX8_saysText 11 = .ok (.aload_n 1, 1) := by decide +kernel
theorem dX8_saysText_12 : decode cX8_saysText 12 = .ok (.iload_n 2, 1) := by decide +kernel
theorem dX8_saysText_13 : decode cX8_saysText 13 = .ok (.invokevirtual 143, 3) := by decide +kernel
theorem dX8_saysText_16 : decode cX8_saysText 16 = .ok (.invokevirtual 401, 3) := by decide +kernel
theorem dX8_saysText_19 : decode cX8_saysText 19 = .ok (.iinc 2 1, 3) := by decide +kernel
theorem dX8_saysText_22 : decode cX8_saysText 22 = .ok (.goto (-20), 3) := by decide +kernel
theorem dX8_saysText_25 : decode cX8_saysText 25 = .ok (.return_, 1) := by decide +kernel
theorem dX8_saysNumber_0 : decode cX8_saysNumber 0 = .ok (.iload_n 1, 1) := by decide +kernel
theorem dX8_saysNumber_1 : decode cX8_saysNumber 1 = .ok (.bipush 10, 2) := by decide +kernel
theorem dX8_saysNumber_3 : decode cX8_saysNumber 3 = .ok (.if_icmp .lt 14, 3) := by decide +kernel
theorem dX8_saysNumber_6 : decode cX8_saysNumber 6 = .ok (.aload_n 0, 1) := by decide +kernel
theorem dX8_saysNumber_7 : decode cX8_saysNumber 7 = .ok (.bipush 48, 2) := by decide +kernel
theorem dX8_saysNumber_9 : decode cX8_saysNumber 9 = .ok (.iload_n 1, 1) := by decide +kernel
theorem dX8_saysNumber_10 : decode cX8_saysNumber 10 = .ok (.bipush 10, 2) := by decide +kernel
theorem dX8_saysNumber_12 : decode cX8_saysNumber 12 = .ok (.idiv, 1) := by decide +kernel
theorem dX8_saysNumber_13 : decode cX8_saysNumber 13 = .ok (.iadd, 1) := by decide +kernel
theorem dX8_saysNumber_14 : decode cX8_saysNumber 14 = .ok (.invokevirtual 401, 3) := by decide +kernel
theorem dX8_saysNumber_17 : decode cX8_saysNumber 17 = .ok (.aload_n 0, 1) := by decide +kernel
theorem dX8_saysNumber_18 : decode cX8_saysNumber 18 = .ok (.bipush 48, 2) := by decide +kernel
theorem dX8_saysNumber_20 : decode cX8_saysNumber 20 = .ok (.iload_n 1, 1) := by decide +kernel
theorem dX8_saysNumber_21 : decode cX8_saysNumber 21 = .ok (.bipush 10, 2) := by decide +kernel
theorem dX8_saysNumber_23 : decode cX8_saysNumber 23 = .ok (.irem, 1) := by decide +kernel
theorem dX8_saysNumber_24 : decode cX8_saysNumber 24 = .ok (.iadd, 1) := by decide +kernel
theorem dX8_saysNumber_25 : decode cX8_saysNumber 25 = .ok (.invokevirtual 401, 3) := by decide +kernel
theorem dX8_saysNumber_28 : decode cX8_saysNumber 28 = .ok (.return_, 1) := by decide +kernel
theorem dX8_saysName_0 : decode cX8_saysName 0 = .ok (.iconst 0, 1) := by decide +kernel
theorem dX8_saysName_1 : decode cX8_saysName 1 = .ok (.istore_n 2, 1) := by decide +kernel
theorem dX8_saysName_2 : decode cX8_saysName 2 = .ok (.iload_n 2, 1) := by decide +kernel
theorem dX8_saysName_3 : decode cX8_saysName 3 = .ok (.bipush 6, 2) := by decide +kernel
theorem dX8_saysName_5 : decode cX8_saysName 5 = .ok (.if_icmp .ge 47, 3) := by decide +kernel
theorem dX8_saysName_8 : decode cX8_saysName 8 = .ok (.aload_n 0, 1) := by decide +kernel
theorem dX8_saysName_9 : decode cX8_saysName 9 = .ok (.getfield 9, 3) := by decide +kernel
theorem dX8_saysName_12 : decode cX8_saysName 12 = .ok (.bipush 54, 2) := by decide +kernel
theorem dX8_saysName_14 : decode cX8_saysName 14 = .ok (.iload_n 1, 1) := by decide +kernel
theorem dX8_saysName_15 : decode cX8_saysName 15 = .ok (.iadd, 1) := by decide +kernel
theorem dX8_saysName_16 : decode cX8_saysName 16 = .ok (.iaload, 1) := by decide +kernel
theorem dX8_saysName_17 : decode cX8_saysName 17 = .ok (.iload_n 2, 1) := by decide +kernel
theorem dX8_saysName_18 : decode cX8_saysName 18 = .ok (.invokestatic 270, 3) := by decide +kernel
theorem dX8_saysName_21 : decode cX8_saysName 21 = .ok (.ifCond .le 25, 3) := by decide +kernel
theorem dX8_saysName_24 : decode cX8_saysName 24 = .ok (.aload_n 0, 1) := by decide +kernel
theorem dX8_saysName_25 : decode cX8_saysName 25 = .ok (.bipush 97, 2) := by decide +kernel
theorem dX8_saysName_27 : decode cX8_saysName 27 = .ok (.aload_n 0, 1) := by decide +kernel
theorem dX8_saysName_28 : decode cX8_saysName 28 = .ok (.getfield 9, 3) := by decide +kernel
theorem dX8_saysName_31 : decode cX8_saysName 31 = .ok (.bipush 54, 2) := by decide +kernel
theorem dX8_saysName_33 : decode cX8_saysName 33 = .ok (.iload_n 1, 1) := by decide +kernel
theorem dX8_saysName_34 : decode cX8_saysName 34 = .ok (.iadd, 1) := by decide +kernel
theorem dX8_saysName_35 : decode cX8_saysName 35 = .ok (.iaload, 1) := by decide +kernel
theorem dX8_saysName_36 : decode cX8_saysName 36 = .ok (.iload_n 2, 1) := by decide +kernel
theorem dX8_saysName_37 : decode cX8_saysName 37 = .ok (.invokestatic 270, 3) := by decide +kernel
theorem dX8_saysName_40 : decode cX8_saysName 40 = .ok (.iadd, 1) := by decide +kernel
theorem dX8_saysName_41 : decode cX8_saysName 41 = .ok (.iconst 1, 1) := by decide +kernel
theorem dX8_saysName_42 : decode cX8_saysName 42 = .ok (.isub, 1) := by decide +kernel
theorem dX8_saysName_43 : decode cX8_saysName 43 = .ok (.invokevirtual 401, 3) := by decide +kernel
theorem dX8_saysName_46 : decode cX8_saysName 46 = .ok (.iinc 2 1, 3) := by decide +kernel
theorem dX8_saysName_49 : decode cX8_saysName 49 = .ok (.goto (-47), 3) := by decide +kernel
theorem dX8_saysName_52 : decode cX8_saysName 52 = .ok (.return_, 1) := by decide +kernel
theorem dX8_saysCommon_0 : decode cX8_saysCommon 0 = .ok (.aload_n 0, 1) := by decide +kernel
theorem dX8_saysCommon_1 : decode cX8_saysCommon 1 = .ok (.aload_n 1, 1) := by decide +kernel
theorem dX8_saysCommon_2 : decode cX8_saysCommon 2 = .ok (.invokevirtual 404, 3) := by decide +kernel
theorem dX8_saysCommon_5 : decode cX8_saysCommon 5 = .ok (.aload_n 0, 1) := by decide +kernel
theorem dX8_saysCommon_6 : decode cX8_saysCommon 6 = .ok (.aload_n 0, 1) := by decide +kernel
theorem dX8_saysCommon_7 : decode cX8_saysCommon 7 = .ok (.getfield 9, 3) := by decide +kernel
theorem dX8_saysCommon_10 : decode cX8_saysCommon 10 = .ok (.iload_n 2, 1) := by decide +kernel
theorem dX8_saysCommon_11 : decode cX8_saysCommon 11 = .ok (.iaload, 1) := by decide +kernel
theorem dX8_saysCommon_12 : decode cX8_saysCommon 12 = .ok (.invokevirtual 407, 3) := by decide +kernel
theorem dX8_saysCommon_15 : decode cX8_saysCommon 15 = .ok (.aload_n 0, 1) := by decide +kernel
theorem dX8_saysCommon_16 : decode cX8_saysCommon 16 = .ok (.bipush 32, 2) := by decide +kernel
theorem dX8_saysCommon_18 : decode cX8_saysCommon 18 = .ok (.invokevirtual 401, 3) := by decide +kernel
theorem dX8_saysCommon_21 : decode cX8_saysCommon 21 = .ok (.aload_n 0, 1) := by decide +kernel
theorem dX8_saysCommon_22 : decode cX8_saysCommon 22 = .ok (.aload_n 0, 1) := by decide +kernel
theorem dX8_saysCommon_23 : decode cX8_saysCommon 23 = .ok (.getfield 9, 3) := by decide +kernel
theorem dX8_saysCommon_26 : decode cX8_saysCommon 26 = .ok (.iload_n 2, 1) := by decide +kernel
theorem dX8_saysCommon_27 : decode cX8_saysCommon 27 = .ok (.iconst 1, 1) := by decide +kernel
theorem dX8_saysCommon_28 : decode cX8_saysCommon 28 = .ok (.iadd, 1) := by decide +kernel
theorem dX8_saysCommon_29 : decode cX8_saysCommon 29 = .ok (.iaload, 1) := by decide +kernel
theorem dX8_saysCommon_30 : decode cX8_saysCommon 30 = .ok (.invokestatic 178, 3) := by decide +kernel
theorem dX8_saysCommon_33 : decode cX8_saysCommon 33 = .ok (.invokevirtual 404, 3) := by decide +kernel
theorem dX8_saysCommon_36 : decode cX8_saysCommon 36 = .ok (.aload_n 0, 1) := by decide +kernel
theorem dX8_saysCommon_37 : decode cX8_saysCommon 37 = .ok (.bipush 32, 2) := by decide +kernel
theorem dX8_saysCommon_39 : decode cX8_saysCommon 39 = .ok (.invokevirtual 401, 3) := by decide +kernel
theorem dX8_saysCommon_42 : decode cX8_saysCommon 42 = .ok (.aload_n 0, 1) := by decide +kernel
theorem dX8_saysCommon_43 : decode cX8_saysCommon 43 = .ok (.aload_n 0, 1) := by decide +kernel
theorem dX8_saysCommon_44 : decode cX8_saysCommon 44 = .ok (.getfield 9, 3) := by decide +kernel
theorem dX8_saysCommon_47 : decode cX8_saysCommon 47 = .ok (.iload_n 2, 1) := by decide +kernel
theorem dX8_saysCommon_48 : decode cX8_saysCommon 48 = .ok (.iconst 2, 1) := by decide +kernel
theorem dX8_saysCommon_49 : decode cX8_saysCommon 49 = .ok (.iadd, 1) := by decide +kernel
theorem dX8_saysCommon_50 : decode cX8_saysCommon 50 = .ok (.iaload, 1) := by decide +kernel
theorem dX8_saysCommon_51 : decode cX8_saysCommon 51 = .ok (.invokevirtual 410, 3) := by decide +kernel
theorem dX8_saysCommon_54 : decode cX8_saysCommon 54 = .ok (.aload_n 0, 1) := by decide +kernel
theorem dX8_saysCommon_55 : decode cX8_saysCommon 55 = .ok (.aload_n 0, 1) := by decide +kernel
theorem dX8_saysCommon_56 : decode cX8_saysCommon 56 = .ok (.getfield 9, 3) := by decide +kernel
theorem dX8_saysCommon_59 : decode cX8_saysCommon 59 = .ok (.iload_n 2, 1) := by decide +kernel
theorem dX8_saysCommon_60 : decode cX8_saysCommon 60 = .ok (.iconst 3, 1) := by decide +kernel
theorem dX8_saysCommon_61 : decode cX8_saysCommon 61 = .ok (.iadd, 1) := by decide +kernel
theorem dX8_saysCommon_62 : decode cX8_saysCommon 62 = .ok (.iaload, 1) := by decide +kernel
theorem dX8_saysCommon_63 : decode cX8_saysCommon 63 = .ok (.ifCond .ne 9, 3) := by decide +kernel
theorem dX8_saysCommon_66 : decode cX8_saysCommon 66 = .ok (.ldc_w 413, 3) := by decide +kernel
theorem dX8_saysCommon_69 : decode cX8_saysCommon 69 = .ok (.goto 6, 3) := by decide +kernel
theorem dX8_saysCommon_72 : decode cX8_saysCommon 72 = .ok (.ldc_w 415, 3) := by decide +kernel
theorem dX8_saysCommon_75 : decode cX8_saysCommon 75 = .ok (.invokevirtual 404, 3) := by decide +kernel
theorem dX8_saysCommon_78 : decode cX8_saysCommon 78 = .ok (.aload_n 0, 1) := by decide +kernel
theorem dX8_saysCommon_79 : decode cX8_saysCommon 79 = .ok (.aload_n 0, 1) := by decide +kernel
theorem dX8_saysCommon_80 : decode cX8_saysCommon 80 = .ok (.getfield 9, 3) := by decide +kernel
theorem dX8_saysCommon_83 : decode cX8_saysCommon 83 = .ok (.iload_n 2, 1) := by decide +kernel
theorem dX8_saysCommon_84 : decode cX8_saysCommon 84 = .ok (.iload_n 3, 1) := by decide +kernel
theorem dX8_saysCommon_85 : decode cX8_saysCommon 85 = .ok (.iadd, 1) := by decide +kernel
theorem dX8_saysCommon_86 : decode cX8_saysCommon 86 = .ok (.iaload, 1) := by decide +kernel
theorem dX8_saysCommon_87 : decode cX8_saysCommon 87 = .ok (.invokevirtual 410, 3) := by decide +kernel
theorem dX8_saysCommon_90 : decode cX8_saysCommon 90 = .ok (.aload_n 0, 1) := by decide +kernel
theorem dX8_saysCommon_91 : decode cX8_saysCommon 91 = .ok (.bipush 45, 2) := by decide +kernel
theorem dX8_saysCommon_93 : decode cX8_saysCommon 93 = .ok (.invokevirtual 401, 3) := by decide +kernel
theorem dX8_saysCommon_96 : decode cX8_saysCommon 96 = .ok (.aload_n 0, 1) := by decide +kernel
theorem dX8_saysCommon_97 : decode cX8_saysCommon 97 = .ok (.aload_n 0, 1) := by decide +kernel
theorem dX8_saysCommon_98 : decode cX8_saysCommon 98 = .ok (.getfield 9, 3) := by decide +kernel
theorem dX8_saysCommon_101 : decode cX8_saysCommon 101 = .ok (.iload_n 2, 1) := by decide +kernel
theorem dX8_saysCommon_102 : decode cX8_saysCommon 102 = .ok (.iload_n 3, 1) := by decide +kernel
theorem dX8_saysCommon_103 : decode cX8_saysCommon 103 = .ok (.iadd, 1) := by decide +kernel
theorem dX8_saysCommon_104 : decode cX8_saysCommon 104 = .ok (.iconst 1, 1) := by decide +kernel
theorem dX8_saysCommon_105 : decode cX8_saysCommon 105 = .ok (.iadd, 1) := by decide +kernel
theorem dX8_saysCommon_106 : decode cX8_saysCommon 106 = .ok (.iaload, 1) := by decide +kernel
theorem dX8_saysCommon_107 : decode cX8_saysCommon 107 = .ok (.invokevirtual 410, 3) := by decide +kernel
theorem dX8_saysCommon_110 : decode cX8_saysCommon 110 = .ok (.return_, 1) := by decide +kernel
theorem dX8_tell_0 : decode cX8_tell 0 = .ok (.aload_n 0, 1) := by decide +kernel
theorem dX8_tell_1 : decode cX8_tell 1 = .ok (.invokevirtual 49, 3) := by decide +kernel
theorem dX8_tell_4 : decode cX8_tell 4 = .ok (.ifCond .ne 6, 3) := by decide +kernel
theorem dX8_tell_7 : decode cX8_tell 7 = .ok (.bipush (-2), 2) := by decide +kernel
theorem dX8_tell_9 : decode cX8_tell 9 = .ok (.ireturn, 1) := by decide +kernel
theorem dX8_tell_10 : decode cX8_tell 10 = .ok (.aload_n 0, 1) := by decide +kernel
theorem dX8_tell_11 : decode cX8_tell 11 = .ok (.iconst 0, 1) := by decide +kernel
theorem dX8_tell_12 : decode cX8_tell 12 = .ok (.putfield 398, 3) := by decide +kernel
theorem dX8_tell_15 : decode cX8_tell 15 = .ok (.aload_n 0, 1) := by decide +kernel
theorem dX8_tell_16 : decode cX8_tell 16 = .ok (.ldc_w 417, 3) := by decide +kernel
theorem dX8_tell_19 : decode cX8_tell 19 = .ok (.invokevirtual 404, 3) := by decide +kernel
theorem dX8_tell_22 : decode cX8_tell 22 = .ok (.aload_n 0, 1) := by decide +kernel
theorem dX8_tell_23 : decode cX8_tell 23 = .ok (.aload_n 0, 1) := by decide +kernel
theorem dX8_tell_24 : decode cX8_tell 24 = .ok (.getfield 9, 3) := by decide +kernel
theorem dX8_tell_27 : decode cX8_tell 27 = .ok (.iconst 0, 1) := by decide +kernel
theorem dX8_tell_28 : decode cX8_tell 28 = .ok (.iaload, 1) := by decide +kernel
theorem dX8_tell_29 : decode cX8_tell 29 = .ok (.invokevirtual 410, 3) := by decide +kernel
theorem dX8_tell_32 : decode cX8_tell 32 = .ok (.aload_n 0, 1) := by decide +kernel
theorem dX8_tell_33 : decode cX8_tell 33 = .ok (.bipush 59, 2) := by decide +kernel
theorem dX8_tell_35 : decode cX8_tell 35 = .ok (.invokevirtual 401, 3) := by decide +kernel
theorem dX8_tell_38 : decode cX8_tell 38 = .ok (.iconst 0, 1) := by decide +kernel
theorem dX8_tell_39 : decode cX8_tell 39 = .ok (.istore_n 1, 1) := by decide +kernel
theorem dX8_tell_40 : decode cX8_tell 40 = .ok (.iload_n 1, 1) := by decide +kernel
theorem dX8_tell_41 : decode cX8_tell 41 = .ok (.bipush 24, 2) := by decide +kernel
theorem dX8_tell_43 : decode cX8_tell 43 = .ok (.if_icmp .ge 107, 3) := by decide +kernel
theorem dX8_tell_46 : decode cX8_tell 46 = .ok (.aload_n 0, 1) := by decide +kernel
theorem dX8_tell_47 : decode cX8_tell 47 = .ok (.getfield 9, 3) := by decide +kernel
theorem dX8_tell_50 : decode cX8_tell 50 = .ok (.bipush 6, 2) := by decide +kernel
theorem dX8_tell_52 : decode cX8_tell 52 = .ok (.iconst 2, 1) := by decide +kernel
theorem dX8_tell_53 : decode cX8_tell 53 = .ok (.iload_n 1, 1) := by decide +kernel
theorem dX8_tell_54 : decode cX8_tell 54 = .ok (.imul, 1) := by decide +kernel
theorem dX8_tell_55 : decode cX8_tell 55 = .ok (.iadd, 1) := by decide +kernel
theorem dX8_tell_56 : decode cX8_tell 56 = .ok (.iaload, 1) := by decide +kernel
theorem dX8_tell_57 : decode cX8_tell 57 = .ok (.iconst 4, 1) := by decide +kernel
theorem dX8_tell_58 : decode cX8_tell 58 = .ok (.if_icmp .ne 23, 3) := by decide +kernel
theorem dX8_tell_61 : decode cX8_tell 61 = .ok (.aload_n 0, 1) := by decide +kernel
theorem dX8_tell_62 : decode cX8_tell 62 = .ok (.getfield 9, 3) := by decide +kernel
theorem dX8_tell_65 : decode cX8_tell 65 = .ok (.bipush 6, 2) := by decide +kernel
theorem dX8_tell_67 : decode cX8_tell 67 = .ok (.iconst 2, 1) := by decide +kernel
theorem dX8_tell_68 : decode cX8_tell 68 = .ok (.iload_n 1, 1) := by decide +kernel
theorem dX8_tell_69 : decode cX8_tell 69 = .ok (.imul, 1) := by decide +kernel
theorem dX8_tell_70 : decode cX8_tell 70 = .ok (.iadd, 1) := by decide +kernel
theorem dX8_tell_71 : decode cX8_tell 71 = .ok (.iconst 1, 1) := by decide +kernel
theorem dX8_tell_72 : decode cX8_tell 72 = .ok (.iadd, 1) := by decide +kernel
theorem dX8_tell_73 : decode cX8_tell 73 = .ok (.iaload, 1) := by decide +kernel
theorem dX8_tell_74 : decode cX8_tell 74 = .ok (.iconst 4, 1) := by decide +kernel
theorem dX8_tell_75 : decode cX8_tell 75 = .ok (.if_icmp .ne 6, 3) := by decide +kernel
theorem dX8_tell_78 : decode cX8_tell 78 = .ok (.goto 66, 3) := by decide +kernel
theorem dX8_tell_81 : decode cX8_tell 81 = .ok (.aload_n 0, 1) := by decide +kernel
theorem dX8_tell_82 : decode cX8_tell 82 = .ok (.ldc_w 419, 3) := by decide +kernel
theorem dX8_tell_85 : decode cX8_tell 85 = .ok (.invokevirtual 404, 3) := by decide +kernel
theorem dX8_tell_88 : decode cX8_tell 88 = .ok (.aload_n 0, 1) := by decide +kernel
theorem dX8_tell_89 : decode cX8_tell 89 = .ok (.iload_n 1, 1) := by decide +kernel
theorem dX8_tell_90 : decode cX8_tell 90 = .ok (.invokevirtual 410, 3) := by decide +kernel
theorem dX8_tell_93 : decode cX8_tell 93 = .ok (.aload_n 0, 1) := by decide +kernel
theorem dX8_tell_94 : decode cX8_tell 94 = .ok (.bipush 32, 2) := by decide +kernel
theorem dX8_tell_96 : decode cX8_tell 96 = .ok (.invokevirtual 401, 3) := by decide +kernel
theorem dX8_tell_99 : decode cX8_tell 99 = .ok (.aload_n 0, 1) := by decide +kernel
theorem dX8_tell_100 : decode cX8_tell 100 = .ok (.aload_n 0, 1) := by decide +kernel
theorem dX8_tell_101 : decode cX8_tell 101 = .ok (.getfield 9, 3) := by decide +kernel
theorem dX8_tell_104 : decode cX8_tell 104 = .ok (.bipush 6, 2) := by decide +kernel
theorem dX8_tell_106 : decode cX8_tell 106 = .ok (.iconst 2, 1) := by decide +kernel
theorem dX8_tell_107 : decode cX8_tell 107 = .ok (.iload_n 1, 1) := by decide +kernel
theorem dX8_tell_108 : decode cX8_tell 108 = .ok (.imul, 1) := by decide +kernel
theorem dX8_tell_109 : decode cX8_tell 109 = .ok (.iadd, 1) := by decide +kernel
theorem dX8_tell_110 : decode cX8_tell 110 = .ok (.iaload, 1) := by decide +kernel
theorem dX8_tell_111 : decode cX8_tell 111 = .ok (.invokevirtual 410, 3) := by decide +kernel
theorem dX8_tell_114 : decode cX8_tell 114 = .ok (.aload_n 0, 1) := by decide +kernel
theorem dX8_tell_115 : decode cX8_tell 115 = .ok (.ldc_w 413, 3) := by decide +kernel
theorem dX8_tell_118 : decode cX8_tell 118 = .ok (.invokevirtual 404, 3) := by decide +kernel
theorem dX8_tell_121 : decode cX8_tell 121 = .ok (.aload_n 0, 1) := by decide +kernel
theorem dX8_tell_122 : decode cX8_tell 122 = .ok (.aload_n 0, 1) := by decide +kernel
theorem dX8_tell_123 : decode cX8_tell 123 = .ok (.getfield 9, 3) := by decide +kernel
theorem dX8_tell_126 : decode cX8_tell 126 = .ok (.bipush 6, 2) := by decide +kernel
theorem dX8_tell_128 : decode cX8_tell 128 = .ok (.iconst 2, 1) := by decide +kernel
theorem dX8_tell_129 : decode cX8_tell 129 = .ok (.iload_n 1, 1) := by decide +kernel
theorem dX8_tell_130 : decode cX8_tell 130 = .ok (.imul, 1) := by decide +kernel
theorem dX8_tell_131 : decode cX8_tell 131 = .ok (.iadd, 1) := by decide +kernel
theorem dX8_tell_132 : decode cX8_tell 132 = .ok (.iconst 1, 1) := by decide +kernel
theorem dX8_tell_133 : decode cX8_tell 133 = .ok (.iadd, 1) := by decide +kernel
theorem dX8_tell_134 : decode cX8_tell 134 = .ok (.iaload, 1) := by decide +kernel
theorem dX8_tell_135 : decode cX8_tell 135 = .ok (.invokevirtual 410, 3) := by decide +kernel
theorem dX8_tell_138 : decode cX8_tell 138 = .ok (.aload_n 0, 1) := by decide +kernel
theorem dX8_tell_139 : decode cX8_tell 139 = .ok (.bipush 59, 2) := by decide +kernel
theorem dX8_tell_141 : decode cX8_tell 141 = .ok (.invokevirtual 401, 3) := by decide +kernel
theorem dX8_tell_144 : decode cX8_tell 144 = .ok (.iinc 1 1, 3) := by decide +kernel
theorem dX8_tell_147 : decode cX8_tell 147 = .ok (.goto (-107), 3) := by decide +kernel
theorem dX8_tell_150 : decode cX8_tell 150 = .ok (.iconst 0, 1) := by decide +kernel
theorem dX8_tell_151 : decode cX8_tell 151 = .ok (.istore_n 1, 1) := by decide +kernel
theorem dX8_tell_152 : decode cX8_tell 152 = .ok (.iload_n 1, 1) := by decide +kernel
theorem dX8_tell_153 : decode cX8_tell 153 = .ok (.aload_n 0, 1) := by decide +kernel
theorem dX8_tell_154 : decode cX8_tell 154 = .ok (.getfield 9, 3) := by decide +kernel
theorem dX8_tell_157 : decode cX8_tell 157 = .ok (.iconst 1, 1) := by decide +kernel
theorem dX8_tell_158 : decode cX8_tell 158 = .ok (.iaload, 1) := by decide +kernel
theorem dX8_tell_159 : decode cX8_tell 159 = .ok (.if_icmp .ge 27, 3) := by decide +kernel
theorem dX8_tell_162 : decode cX8_tell 162 = .ok (.aload_n 0, 1) := by decide +kernel
theorem dX8_tell_163 : decode cX8_tell 163 = .ok (.ldc_w 421, 3) := by decide +kernel
theorem dX8_tell_166 : decode cX8_tell 166 = .ok (.invokevirtual 404, 3) := by decide +kernel
theorem dX8_tell_169 : decode cX8_tell 169 = .ok (.aload_n 0, 1) := by decide +kernel
theorem dX8_tell_170 : decode cX8_tell 170 = .ok (.iload_n 1, 1) := by decide +kernel
theorem dX8_tell_171 : decode cX8_tell 171 = .ok (.invokevirtual 407, 3) := by decide +kernel
theorem dX8_tell_174 : decode cX8_tell 174 = .ok (.aload_n 0, 1) := by decide +kernel
theorem dX8_tell_175 : decode cX8_tell 175 = .ok (.bipush 59, 2) := by decide +kernel
theorem dX8_tell_177 : decode cX8_tell 177 = .ok (.invokevirtual 401, 3) := by decide +kernel
theorem dX8_tell_180 : decode cX8_tell 180 = .ok (.iinc 1 1, 3) := by decide +kernel
theorem dX8_tell_183 : decode cX8_tell 183 = .ok (.goto (-31), 3) := by decide +kernel
theorem dX8_tell_186 : decode cX8_tell 186 = .ok (.iconst 0, 1) := by decide +kernel
theorem dX8_tell_187 : decode cX8_tell 187 = .ok (.istore_n 1, 1) := by decide +kernel
theorem dX8_tell_188 : decode cX8_tell 188 = .ok (.iload_n 1, 1) := by decide +kernel
theorem dX8_tell_189 : decode cX8_tell 189 = .ok (.aload_n 0, 1) := by decide +kernel
theorem dX8_tell_190 : decode cX8_tell 190 = .ok (.getfield 9, 3) := by decide +kernel
theorem dX8_tell_193 : decode cX8_tell 193 = .ok (.iconst 2, 1) := by decide +kernel
theorem dX8_tell_194 : decode cX8_tell 194 = .ok (.iaload, 1) := by decide +kernel
theorem dX8_tell_195 : decode cX8_tell 195 = .ok (.if_icmp .ge 45, 3) := by decide +kernel
theorem dX8_tell_198 : decode cX8_tell 198 = .ok (.aload_n 0, 1) := by decide +kernel
theorem dX8_tell_199 : decode cX8_tell 199 = .ok (.ldc_w 423, 3) := by decide +kernel
theorem dX8_tell_202 : decode cX8_tell 202 = .ok (.bipush 62, 2) := by decide +kernel
theorem dX8_tell_204 : decode cX8_tell 204 = .ok (.bipush 12, 2) := by decide +kernel
theorem dX8_tell_206 : decode cX8_tell 206 = .ok (.iload_n 1, 1) := by decide +kernel
theorem dX8_tell_207 : decode cX8_tell 207 = .ok (.imul, 1) := by decide +kernel
theorem dX8_tell_208 : decode cX8_tell 208 = .ok (.iadd, 1) := by decide +kernel
theorem dX8_tell_209 : decode cX8_tell 209 = .ok (.iconst 5, 1) := by decide +kernel
theorem dX8_tell_210 : decode cX8_tell 210 = .ok (.invokevirtual 425, 3) := by decide +kernel
theorem dX8_tell_213 : decode cX8_tell 213 = .ok (.aload_n 0, 1) := by decide +kernel
theorem dX8_tell_214 : decode cX8_tell 214 = .ok (.aload_n 0, 1) := by decide +kernel
theorem dX8_tell_215 : decode cX8_tell 215 = .ok (.iload_n 1, 1) := by decide +kernel
theorem dX8_tell_216 : decode cX8_tell 216 = .ok (.invokevirtual 382, 3) := by decide +kernel
theorem dX8_tell_219 : decode cX8_tell 219 = .ok (.ifCond .eq 9, 3) := by decide +kernel
theorem dX8_tell_222 : decode cX8_tell 222 = .ok (.ldc_w 429, 3) := by decide +kernel
theorem dX8_tell_225 : decode cX8_tell 225 = .ok (.goto 6, 3) := by decide +kernel
theorem dX8_tell_228 : decode cX8_tell 228 = .ok (.ldc_w 431, 3) := by decide +kernel
theorem dX8_tell_231 : decode cX8_tell 231 = .ok (.invokevirtual 404, 3) := by decide +kernel
theorem dX8_tell_234 : decode cX8_tell 234 = .ok (.iinc 1 1, 3) := by decide +kernel
theorem dX8_tell_237 : decode cX8_tell 237 = .ok (.goto (-49), 3) := by decide +kernel
theorem dX8_tell_240 : decode cX8_tell 240 = .ok (.iconst 0, 1) := by decide +kernel
theorem dX8_tell_241 : decode cX8_tell 241 = .ok (.istore_n 1, 1) := by decide +kernel
theorem dX8_tell_242 : decode cX8_tell 242 = .ok (.iload_n 1, 1) := by decide +kernel
theorem dX8_tell_243 : decode cX8_tell 243 = .ok (.aload_n 0, 1) := by decide +kernel
theorem dX8_tell_244 : decode cX8_tell 244 = .ok (.getfield 9, 3) := by decide +kernel
theorem dX8_tell_247 : decode cX8_tell 247 = .ok (.iconst 3, 1) := by decide +kernel
theorem dX8_tell_248 : decode cX8_tell 248 = .ok (.iaload, 1) := by decide +kernel
theorem dX8_tell_249 : decode cX8_tell 249 = .ok (.if_icmp .ge 69, 3) := by decide +kernel
theorem dX8_tell_252 : decode cX8_tell 252 = .ok (.aload_n 0, 1) := by decide +kernel
theorem dX8_tell_253 : decode cX8_tell 253 = .ok (.ldc_w 433, 3) := by decide +kernel
theorem dX8_tell_256 : decode cX8_tell 256 = .ok (.sipush 350, 3) := by decide +kernel
theorem dX8_tell_259 : decode cX8_tell 259 = .ok (.bipush 7, 2) := by decide +kernel
theorem dX8_tell_261 : decode cX8_tell 261 = .ok (.iload_n 1, 1) := by decide +kernel
theorem dX8_tell_262 : decode cX8_tell 262 = .ok (.imul, 1) := by decide +kernel
theorem dX8_tell_263 : decode cX8_tell 263 = .ok (.iadd, 1) := by decide +kernel
theorem dX8_tell_264 : decode cX8_tell 264 = .ok (.iconst 4, 1) := by decide +kernel
theorem dX8_tell_265 : decode cX8_tell 265 = .ok (.invokevirtual 425, 3) := by decide +kernel
theorem dX8_tell_268 : decode cX8_tell 268 = .ok (.aload_n 0, 1) := by decide +kernel
theorem dX8_tell_269 : decode cX8_tell 269 = .ok (.iload_n 1, 1) := by decide +kernel
theorem dX8_tell_270 : decode cX8_tell 270 = .ok (.bipush 6, 2) := by decide +kernel
theorem dX8_tell_272 : decode cX8_tell 272 = .ok (.invokevirtual 284, 3) := by decide +kernel
theorem dX8_tell_275 : decode cX8_tell 275 = .ok (.ifCond .le 10, 3) := by decide +kernel
theorem dX8_tell_278 : decode cX8_tell 278 = .ok (.aload_n 0, 1) := by decide +kernel
theorem dX8_tell_279 : decode cX8_tell 279 = .ok (.ldc_w 435, 3) := by decide +kernel
theorem dX8_tell_282 : decode cX8_tell 282 = .ok (.invokevirtual 404, 3) := by decide +kernel
theorem dX8_tell_285 : decode cX8_tell 285 = .ok (.aload_n 0, 1) := by decide +kernel
theorem dX8_tell_286 : decode cX8_tell 286 = .ok (.iload_n 1, 1) := by decide +kernel
theorem dX8_tell_287 : decode cX8_tell 287 = .ok (.bipush 6, 2) := by decide +kernel
theorem dX8_tell_289 : decode cX8_tell 289 = .ok (.invokevirtual 284, 3) := by decide +kernel
theorem dX8_tell_292 : decode cX8_tell 292 = .ok (.ifCond .le 14, 3) := by decide +kernel
theorem dX8_tell_295 : decode cX8_tell 295 = .ok (.aload_n 0, 1) := by decide +kernel
theorem dX8_tell_296 : decode cX8_tell 296 = .ok (.aload_n 0, 1) := by decide +kernel
theorem dX8_tell_297 : decode cX8_tell 297 = .ok (.iload_n 1, 1) := by decide +kernel
theorem dX8_tell_298 : decode cX8_tell 298 = .ok (.bipush 6, 2) := by decide +kernel
theorem dX8_tell_300 : decode cX8_tell 300 = .ok (.invokevirtual 284, 3) := by decide +kernel
theorem dX8_tell_303 : decode cX8_tell 303 = .ok (.invokevirtual 410, 3) := by decide +kernel
theorem dX8_tell_306 : decode cX8_tell 306 = .ok (.aload_n 0, 1) := by decide +kernel
theorem dX8_tell_307 : decode cX8_tell 307 = .ok (.bipush 59, 2) := by decide +kernel
theorem dX8_tell_309 : decode cX8_tell 309 = .ok (.invokevirtual 401, 3) := by decide +kernel
theorem dX8_tell_312 : decode cX8_tell 312 = .ok (.iinc 1 1, 3) := by decide +kernel
theorem dX8_tell_315 : decode cX8_tell 315 = .ok (.goto (-73), 3) := by decide +kernel
theorem dX8_tell_318 : decode cX8_tell 318 = .ok (.aload_n 0, 1) := by decide +kernel
theorem dX8_tell_319 : decode cX8_tell 319 = .ok (.getfield 398, 3) := by decide +kernel
theorem dX8_tell_322 : decode cX8_tell 322 = .ok (.ireturn, 1) := by decide +kernel
theorem dX8_octet_0 : decode cX8_octet 0 = .ok (.iload_n 1, 1) := by decide +kernel
theorem dX8_octet_1 : decode cX8_octet 1 = .ok (.i2l, 1) := by decide +kernel
theorem dX8_octet_2 : decode cX8_octet 2 = .ok (.lconst 0, 1) := by decide +kernel
theorem dX8_octet_3 : decode cX8_octet 3 = .ok (.aload_n 0, 1) := by decide +kernel
theorem dX8_octet_4 : decode cX8_octet 4 = .ok (.getfield 398, 3) := by decide +kernel
theorem dX8_octet_7 : decode cX8_octet 7 = .ok (.iconst 1, 1) := by decide +kernel
theorem dX8_octet_8 : decode cX8_octet 8 = .ok (.isub, 1) := by decide +kernel
theorem dX8_octet_9 : decode cX8_octet 9 = .ok (.i2l, 1) := by decide +kernel
theorem dX8_octet_10 : decode cX8_octet 10 = .ok (.invokestatic 45, 3) := by decide +kernel
theorem dX8_octet_13 : decode cX8_octet 13 = .ok (.ifCond .eq 12, 3) := by decide +kernel
theorem dX8_octet_16 : decode cX8_octet 16 = .ok (.aload_n 0, 1) := by decide +kernel
theorem dX8_octet_17 : decode cX8_octet 17 = .ok (.getfield 39, 3) := by decide +kernel
theorem dX8_octet_20 : decode cX8_octet 20 = .ok (.iload_n 1, 1) := by decide +kernel
theorem dX8_octet_21 : decode cX8_octet 21 = .ok (.baload, 1) := by decide +kernel
theorem dX8_octet_22 : decode cX8_octet 22 = .ok (.goto 4, 3) := by decide +kernel
theorem dX8_octet_25 : decode cX8_octet 25 = .ok (.iconst (-1), 1) := by decide +kernel
theorem dX8_octet_26 : decode cX8_octet 26 = .ok (.ireturn, 1) := by decide +kernel
theorem dJ6_bitCount_0f7a4_0 : decode cJ6_bitCount_0f7a4 0 = .ok (.iload_n 0, 1) := by decide +kernel
theorem dJ6_bitCount_0f7a4_1 : decode cJ6_bitCount_0f7a4 1 = .ok (.iload_n 0, 1) := by decide +kernel
theorem dJ6_bitCount_0f7a4_2 : decode cJ6_bitCount_0f7a4 2 = .ok (.iconst 1, 1) := by decide +kernel
theorem dJ6_bitCount_0f7a4_3 : decode cJ6_bitCount_0f7a4 3 = .ok (.iushr, 1) := by decide +kernel
theorem dJ6_bitCount_0f7a4_4 : decode cJ6_bitCount_0f7a4 4 = .ok (.ldc_w 265, 3) := by decide +kernel
theorem dJ6_bitCount_0f7a4_7 : decode cJ6_bitCount_0f7a4 7 = .ok (.iand, 1) := by decide +kernel
theorem dJ6_bitCount_0f7a4_8 : decode cJ6_bitCount_0f7a4 8 = .ok (.isub, 1) := by decide +kernel
theorem dJ6_bitCount_0f7a4_9 : decode cJ6_bitCount_0f7a4 9 = .ok (.istore_n 0, 1) := by decide +kernel
theorem dJ6_bitCount_0f7a4_10 : decode cJ6_bitCount_0f7a4 10 = .ok (.iload_n 0, 1) := by decide +kernel
theorem dJ6_bitCount_0f7a4_11 : decode cJ6_bitCount_0f7a4 11 = .ok (.ldc_w 266, 3) := by decide +kernel
theorem dJ6_bitCount_0f7a4_14 : decode cJ6_bitCount_0f7a4 14 = .ok (.iand, 1) := by decide +kernel
theorem dJ6_bitCount_0f7a4_15 : decode cJ6_bitCount_0f7a4 15 = .ok (.iload_n 0, 1) := by decide +kernel
theorem dJ6_bitCount_0f7a4_16 : decode cJ6_bitCount_0f7a4 16 = .ok (.iconst 2, 1) := by decide +kernel
theorem dJ6_bitCount_0f7a4_17 : decode cJ6_bitCount_0f7a4 17 = .ok (.iushr, 1) := by decide +kernel
theorem dJ6_bitCount_0f7a4_18 : decode cJ6_bitCount_0f7a4 18 = .ok (.ldc_w 266, 3) := by decide +kernel
theorem dJ6_bitCount_0f7a4_21 : decode cJ6_bitCount_0f7a4 21 = .ok (.iand, 1) := by decide +kernel
theorem dJ6_bitCount_0f7a4_22 : decode cJ6_bitCount_0f7a4 22 = .ok (.iadd, 1) := by decide +kernel
theorem dJ6_bitCount_0f7a4_23 : decode cJ6_bitCount_0f7a4 23 = .ok (.istore_n 0, 1) := by decide +kernel
theorem dJ6_bitCount_0f7a4_24 : decode cJ6_bitCount_0f7a4 24 = .ok (.iload_n 0, 1) := by decide +kernel
theorem dJ6_bitCount_0f7a4_25 : decode cJ6_bitCount_0f7a4 25 = .ok (.iload_n 0, 1) := by decide +kernel
theorem dJ6_bitCount_0f7a4_26 : decode cJ6_bitCount_0f7a4 26 = .ok (.iconst 4, 1) := by decide +kernel
theorem dJ6_bitCount_0f7a4_27 : decode cJ6_bitCount_0f7a4 27 = .ok (.iushr, 1) := by decide +kernel
theorem dJ6_bitCount_0f7a4_28 : decode cJ6_bitCount_0f7a4 28 = .ok (.iadd, 1) := by decide +kernel
theorem dJ6_bitCount_0f7a4_29 : decode cJ6_bitCount_0f7a4 29 = .ok (.ldc_w 267, 3) := by decide +kernel
theorem dJ6_bitCount_0f7a4_32 : decode cJ6_bitCount_0f7a4 32 = .ok (.iand, 1) := by decide +kernel
theorem dJ6_bitCount_0f7a4_33 : decode cJ6_bitCount_0f7a4 33 = .ok (.istore_n 0, 1) := by decide +kernel
theorem dJ6_bitCount_0f7a4_34 : decode cJ6_bitCount_0f7a4 34 = .ok (.iload_n 0, 1) := by decide +kernel
theorem dJ6_bitCount_0f7a4_35 : decode cJ6_bitCount_0f7a4 35 = .ok (.iload_n 0, 1) := by decide +kernel
theorem dJ6_bitCount_0f7a4_36 : decode cJ6_bitCount_0f7a4 36 = .ok (.bipush 8, 2) := by decide +kernel
theorem dJ6_bitCount_0f7a4_38 : decode cJ6_bitCount_0f7a4 38 = .ok (.iushr, 1) := by decide +kernel
theorem dJ6_bitCount_0f7a4_39 : decode cJ6_bitCount_0f7a4 39 = .ok (.iadd, 1) := by decide +kernel
theorem dJ6_bitCount_0f7a4_40 : decode cJ6_bitCount_0f7a4 40 = .ok (.istore_n 0, 1) := by decide +kernel
theorem dJ6_bitCount_0f7a4_41 : decode cJ6_bitCount_0f7a4 41 = .ok (.iload_n 0, 1) := by decide +kernel
theorem dJ6_bitCount_0f7a4_42 : decode cJ6_bitCount_0f7a4 42 = .ok (.iload_n 0, 1) := by decide +kernel
theorem dJ6_bitCount_0f7a4_43 : decode cJ6_bitCount_0f7a4 43 = .ok (.bipush 16, 2) := by decide +kernel
theorem dJ6_bitCount_0f7a4_45 : decode cJ6_bitCount_0f7a4 45 = .ok (.iushr, 1) := by decide +kernel
theorem dJ6_bitCount_0f7a4_46 : decode cJ6_bitCount_0f7a4 46 = .ok (.iadd, 1) := by decide +kernel
theorem dJ6_bitCount_0f7a4_47 : decode cJ6_bitCount_0f7a4 47 = .ok (.istore_n 0, 1) := by decide +kernel
theorem dJ6_bitCount_0f7a4_48 : decode cJ6_bitCount_0f7a4 48 = .ok (.iload_n 0, 1) := by decide +kernel
theorem dJ6_bitCount_0f7a4_49 : decode cJ6_bitCount_0f7a4 49 = .ok (.bipush 63, 2) := by decide +kernel
theorem dJ6_bitCount_0f7a4_51 : decode cJ6_bitCount_0f7a4 51 = .ok (.iand, 1) := by decide +kernel
theorem dJ6_bitCount_0f7a4_52 : decode cJ6_bitCount_0f7a4 52 = .ok (.ireturn, 1) := by decide +kernel
theorem dJ0_length_8abf5_0 : decode cJ0_length_8abf5 0 = .ok (.aload_n 0, 1) := by decide +kernel
theorem dJ0_length_8abf5_1 : decode cJ0_length_8abf5 1 = .ok (.getfield 9, 3) := by decide +kernel
theorem dJ0_length_8abf5_4 : decode cJ0_length_8abf5 4 = .ok (.arraylength, 1) := by decide +kernel
theorem dJ0_length_8abf5_5 : decode cJ0_length_8abf5 5 = .ok (.aload_n 0, 1) := by decide +kernel
theorem dJ0_length_8abf5_6 : decode cJ0_length_8abf5 6 = .ok (.invokevirtual 335, 3) := by decide +kernel
theorem dJ0_length_8abf5_9 : decode cJ0_length_8abf5 9 = .ok (.ishr, 1) := by decide +kernel
theorem dJ0_length_8abf5_10 : decode cJ0_length_8abf5 10 = .ok (.ireturn, 1) := by decide +kernel
theorem dJ0_charAt_5068e_0 : decode cJ0_charAt_5068e 0 = .ok (.aload_n 0, 1) := by decide +kernel
theorem dJ0_charAt_5068e_1 : decode cJ0_charAt_5068e 1 = .ok (.invokevirtual 492, 3) := by decide +kernel
theorem dJ0_charAt_5068e_4 : decode cJ0_charAt_5068e 4 = .ok (.ifCond .eq 12, 3) := by decide +kernel
theorem dJ0_charAt_5068e_7 : decode cJ0_charAt_5068e 7 = .ok (.aload_n 0, 1) := by decide +kernel
theorem dJ0_charAt_5068e_8 : decode cJ0_charAt_5068e 8 = .ok (.getfield 9, 3) := by decide +kernel
theorem dJ0_charAt_5068e_11 : decode cJ0_charAt_5068e 11 = .ok (.iload_n 1, 1) := by decide +kernel
theorem dJ0_charAt_5068e_12 : decode cJ0_charAt_5068e 12 = .ok (.invokestatic 495, 3) := by decide +kernel
theorem dJ0_charAt_5068e_15 : decode cJ0_charAt_5068e 15 = .ok (.ireturn, 1) := by decide +kernel
theorem dJ0_charAt_5068e_16 : decode cJ0_charAt_5068e 16 = .ok (.aload_n 0, 1) := by decide +kernel
theorem dJ0_charAt_5068e_17 : decode cJ0_charAt_5068e 17 = .ok (.getfield 9, 3) := by decide +kernel
theorem dJ0_charAt_5068e_20 : decode cJ0_charAt_5068e 20 = .ok (.iload_n 1, 1) := by decide +kernel
theorem dJ0_charAt_5068e_21 : decode cJ0_charAt_5068e 21 = .ok (.invokestatic 498, 3) := by decide +kernel
theorem dJ0_charAt_5068e_24 : decode cJ0_charAt_5068e 24 = .ok (.ireturn, 1) := by decide +kernel
theorem dJ0_coder_7d493_0 : decode cJ0_coder_7d493 0 = .ok (.getstatic 38, 3) := by decide +kernel
theorem dJ0_coder_7d493_3 : decode cJ0_coder_7d493 3 = .ok (.ifCond .eq 10, 3) := by decide +kernel
theorem dJ0_coder_7d493_6 : decode cJ0_coder_7d493 6 = .ok (.aload_n 0, 1) := by decide +kernel
theorem dJ0_coder_7d493_7 : decode cJ0_coder_7d493 7 = .ok (.getfield 15, 3) := by decide +kernel
theorem dJ0_coder_7d493_10 : decode cJ0_coder_7d493 10 = .ok (.goto 4, 3) := by decide +kernel
theorem dJ0_coder_7d493_13 : decode cJ0_coder_7d493 13 = .ok (.iconst 1, 1) := by decide +kernel
theorem dJ0_coder_7d493_14 : decode cJ0_coder_7d493 14 = .ok (.ireturn, 1) := by decide +kernel
theorem dJ0_isLatin1_aae02_0 : decode cJ0_isLatin1_aae02 0 = .ok (.getstatic 38, 3) := by decide +kernel
theorem dJ0_isLatin1_aae02_3 : decode cJ0_isLatin1_aae02 3 = .ok (.ifCond .eq 14, 3) := by decide +kernel
theorem dJ0_isLatin1_aae02_6 : decode cJ0_isLatin1_aae02 6 = .ok (.aload_n 0, 1) := by decide +kernel
theorem dJ0_isLatin1_aae02_7 : decode cJ0_isLatin1_aae02 7 = .ok (.getfield 15, 3) := by decide +kernel
theorem dJ0_isLatin1_aae02_10 : decode cJ0_isLatin1_aae02 10 = .ok (.ifCond .ne 7, 3) := by decide +kernel
theorem dJ0_isLatin1_aae02_13 : decode cJ0_isLatin1_aae02 13 = .ok (.iconst 1, 1) := by decide +kernel
theorem dJ0_isLatin1_aae02_14 : decode cJ0_isLatin1_aae02 14 = .ok (.goto 4, 3) := by decide +kernel
theorem dJ0_isLatin1_aae02_17 : decode cJ0_isLatin1_aae02 17 = .ok (.iconst 0, 1) := by decide +kernel
theorem dJ0_isLatin1_aae02_18 : decode cJ0_isLatin1_aae02 18 = .ok (.ireturn, 1) := by decide +kernel
theorem dJ0_checkIndex_df160_0 : decode cJ0_checkIndex_df160 0 = .ok (.iload_n 0, 1) := by decide +kernel
theorem dJ0_checkIndex_df160_1 : decode cJ0_checkIndex_df160 1 = .ok (.iload_n 1, 1) := by decide +kernel
theorem dJ0_checkIndex_df160_2 : decode cJ0_checkIndex_df160 2 = .ok (.getstatic 1053, 3) := by decide +kernel
theorem dJ0_checkIndex_df160_5 : decode cJ0_checkIndex_df160 5 = .ok (.invokestatic 1059, 3) := by decide +kernel
theorem dJ0_checkIndex_df160_8 : decode cJ0_checkIndex_df160 8 = .ok (.pop, 1) := by decide +kernel
theorem dJ0_checkIndex_df160_9 : decode cJ0_checkIndex_df160 9 = .ok (.return_, 1) := by decide +kernel
theorem dJ1_charAt_3b067_0 : decode cJ1_charAt_3b067 0 = .ok (.iload_n 1, 1) := by decide +kernel
theorem dJ1_charAt_3b067_1 : decode cJ1_charAt_3b067 1 = .ok (.aload_n 0, 1) := by decide +kernel
theorem dJ1_charAt_3b067_2 : decode cJ1_charAt_3b067 2 = .ok (.arraylength, 1) := by decide +kernel
theorem dJ1_charAt_3b067_3 : decode cJ1_charAt_3b067 3 = .ok (.invokestatic 9, 3) := by decide +kernel
theorem dJ1_charAt_3b067_6 : decode cJ1_charAt_3b067 6 = .ok (.aload_n 0, 1) := by decide +kernel
theorem dJ1_charAt_3b067_7 : decode cJ1_charAt_3b067 7 = .ok (.iload_n 1, 1) := by decide +kernel
theorem dJ1_charAt_3b067_8 : decode cJ1_charAt_3b067 8 = .ok (.baload, 1) := by decide +kernel
theorem dJ1_charAt_3b067_9 : decode cJ1_charAt_3b067 9 = .ok (.sipush 255, 3) := by decide +kernel
theorem dJ1_charAt_3b067_12 : decode cJ1_charAt_3b067 12 = .ok (.iand, 1) := by decide +kernel
theorem dJ1_charAt_3b067_13 : decode cJ1_charAt_3b067 13 = .ok (.i2c, 1) := by decide +kernel
theorem dJ1_charAt_3b067_14 : decode cJ1_charAt_3b067 14 = .ok (.ireturn, 1) := by decide +kernel
theorem dJ3_checkIndex_8e157_0 : decode cJ3_checkIndex_8e157 0 = .ok (.iload_n 0, 1) := by decide +kernel
theorem dJ3_checkIndex_8e157_1 : decode cJ3_checkIndex_8e157 1 = .ok (.ifCond .lt 8, 3) := by decide +kernel
theorem dJ3_checkIndex_8e157_4 : decode cJ3_checkIndex_8e157 4 = .ok (.iload_n 0, 1) := by decide +kernel
theorem dJ3_checkIndex_8e157_5 : decode cJ3_checkIndex_8e157 5 = .ok (.iload_n 1, 1) := by decide +kernel
theorem dJ3_checkIndex_8e157_6 : decode cJ3_checkIndex_8e157 6 = .ok (.if_icmp .lt 10, 3) := by decide +kernel
theorem dJ3_checkIndex_8e157_9 : decode cJ3_checkIndex_8e157 9 = .ok (.aload_n 2, 1) := by decide +kernel
theorem dJ3_checkIndex_8e157_10 : decode cJ3_checkIndex_8e157 10 = .ok (.iload_n 0, 1) := by decide +kernel
theorem dJ3_checkIndex_8e157_11 : decode cJ3_checkIndex_8e157 11 = .ok (.iload_n 1, 1) := by decide +kernel
theorem dJ3_checkIndex_8e157_12 : decode cJ3_checkIndex_8e157 12 = .ok (.invokestatic 95, 3) := by decide +kernel
theorem dJ3_checkIndex_8e157_15 : decode cJ3_checkIndex_8e157 15 = .ok (.athrow, 1) := by decide +kernel
theorem dJ3_checkIndex_8e157_16 : decode cJ3_checkIndex_8e157 16 = .ok (.iload_n 0, 1) := by decide +kernel
theorem dJ3_checkIndex_8e157_17 : decode cJ3_checkIndex_8e157 17 = .ok (.ireturn, 1) := by decide +kernel
theorem dL_law_0 : decode cL_law 0 = .ok (.new 7, 3) := by decide +kernel
theorem dL_law_3 : decode cL_law 3 = .ok (.dup, 1) := by decide +kernel
theorem dL_law_4 : decode cL_law 4 = .ok (.invokespecial 9, 3) := by decide +kernel
theorem dL_law_7 : decode cL_law 7 = .ok (.astore_n 1, 1) := by decide +kernel
theorem dL_law_8 : decode cL_law 8 = .ok (.new 10, 3) := by decide +kernel
theorem dL_law_11 : decode cL_law 11 = .ok (.dup, 1) := by decide +kernel
theorem dL_law_12 : decode cL_law 12 = .ok (.invokespecial 12, 3) := by decide +kernel
theorem dL_law_15 : decode cL_law 15 = .ok (.astore_n 2, 1) := by decide +kernel
theorem dL_law_16 : decode cL_law 16 = .ok (.iconst 0, 1) := by decide +kernel
theorem dL_law_17 : decode cL_law 17 = .ok (.istore_n 3, 1) := by decide +kernel
theorem dL_law_18 : decode cL_law 18 = .ok (.iload_n 3, 1) := by decide +kernel
theorem dL_law_19 : decode cL_law 19 = .ok (.aload_n 0, 1) := by decide +kernel
theorem dL_law_20 : decode cL_law 20 = .ok (.arraylength, 1) := by decide +kernel
theorem dL_law_21 : decode cL_law 21 = .ok (.bipush 6, 2) := by decide +kernel
theorem dL_law_23 : decode cL_law 23 = .ok (.isub, 1) := by decide +kernel
theorem dL_law_24 : decode cL_law 24 = .ok (.if_icmp .gt 2010, 3) := by decide +kernel
theorem dL_law_27 : decode cL_law 27 = .ok (.aload_n 0, 1) := by decide +kernel
theorem dL_law_28 : decode cL_law 28 = .ok (.iload_n 3, 1) := by decide +kernel
theorem dL_law_29 : decode cL_law 29 = .ok (.iaload, 1) := by decide +kernel
theorem dL_law_30 : decode cL_law 30 = .ok (.bipush 63, 2) := by decide +kernel
theorem dL_law_32 : decode cL_law 32 = .ok (.iand, 1) := by decide +kernel
theorem dL_law_33 : decode cL_law 33 = .ok (.tableswitch 1995 0 59 #[255, 318, 341, 354, 377, 400, 433, 446, 479, 512, 545, 578, 611, 664, 717, 770, 803, 826, 849, 882, 915, 948, 971, 994, 1017, 1070, 1093, 1116, 1139, 1152, 1165, 1188, 1211, 1244, 1267, 1300, 1333, 1366, 1399, 1432, 1445, 1458, 1491, 1524, 1557, 1600, 1663, 1686, 1699, 1712, 1735, 1758, 1791, 1814, 1837, 1860, 1883, 1926, 1959, 1972], 255) := by decide +kernel
theorem dL_law_288 : decode cL_law 288 = .ok (.aload_n 1, 1) := by decide +kernel
theorem dL_law_289 : decode cL_law 289 = .ok (.aload_n 0, 1) := by decide +kernel
theorem dL_law_290 : decode cL_law 290 = .ok (.iload_n 3, 1) := by decide +kernel
theorem dL_law_291 : decode cL_law 291 = .ok (.iconst 1, 1) := by decide +kernel
theorem dL_law_292 : decode cL_law 292 = .ok (.iadd, 1) := by decide +kernel
theorem dL_law_293 : decode cL_law 293 = .ok (.iaload, 1) := by decide +kernel
theorem dL_law_294 : decode cL_law 294 = .ok (.aload_n 0, 1) := by decide +kernel
theorem dL_law_295 : decode cL_law 295 = .ok (.iload_n 3, 1) := by decide +kernel
theorem dL_law_296 : decode cL_law 296 = .ok (.iconst 2, 1) := by decide +kernel
theorem dL_law_297 : decode cL_law 297 = .ok (.iadd, 1) := by decide +kernel
theorem dL_law_298 : decode cL_law 298 = .ok (.iaload, 1) := by decide +kernel
theorem dL_law_299 : decode cL_law 299 = .ok (.aload_n 0, 1) := by decide +kernel
theorem dL_law_300 : decode cL_law 300 = .ok (.iload_n 3, 1) := by decide +kernel
theorem dL_law_301 : decode cL_law 301 = .ok (.iconst 3, 1) := by decide +kernel
theorem dL_law_302 : decode cL_law 302 = .ok (.iadd, 1) := by decide +kernel
theorem dL_law_303 : decode cL_law 303 = .ok (.iaload, 1) := by decide +kernel
theorem dL_law_304 : decode cL_law 304 = .ok (.aload_n 0, 1) := by decide +kernel
theorem dL_law_305 : decode cL_law 305 = .ok (.iload_n 3, 1) := by decide +kernel
theorem dL_law_306 : decode cL_law 306 = .ok (.iconst 4, 1) := by decide +kernel
theorem dL_law_307 : decode cL_law 307 = .ok (.iadd, 1) := by decide +kernel
theorem dL_law_308 : decode cL_law 308 = .ok (.iaload, 1) := by decide +kernel
theorem dL_law_309 : decode cL_law 309 = .ok (.aload_n 0, 1) := by decide +kernel
theorem dL_law_310 : decode cL_law 310 = .ok (.iload_n 3, 1) := by decide +kernel
theorem dL_law_311 : decode cL_law 311 = .ok (.iconst 5, 1) := by decide +kernel
theorem dL_law_312 : decode cL_law 312 = .ok (.iadd, 1) := by decide +kernel
theorem dL_law_313 : decode cL_law 313 = .ok (.iaload, 1) := by decide +kernel
theorem dL_law_314 : decode cL_law 314 = .ok (.invokevirtual 13, 3) := by decide +kernel
theorem dL_law_317 : decode cL_law 317 = .ok (.aload_n 2, 1) := by decide +kernel
theorem dL_law_318 : decode cL_law 318 = .ok (.aload_n 0, 1) := by decide +kernel
theorem dL_law_319 : decode cL_law 319 = .ok (.iload_n 3, 1) := by decide +kernel
theorem dL_law_320 : decode cL_law 320 = .ok (.iconst 1, 1) := by decide +kernel
theorem dL_law_321 : decode cL_law 321 = .ok (.iadd, 1) := by decide +kernel
theorem dL_law_322 : decode cL_law 322 = .ok (.iaload, 1) := by decide +kernel
theorem dL_law_323 : decode cL_law 323 = .ok (.aload_n 0, 1) := by decide +kernel
theorem dL_law_324 : decode cL_law 324 = .ok (.iload_n 3, 1) := by decide +kernel
theorem dL_law_325 : decode cL_law 325 = .ok (.iconst 2, 1) := by decide +kernel
theorem dL_law_326 : decode cL_law 326 = .ok (.iadd, 1) := by decide +kernel
theorem dL_law_327 : decode cL_law 327 = .ok (.iaload, 1) := by decide +kernel
theorem dL_law_328 : decode cL_law 328 = .ok (.aload_n 0, 1) := by decide +kernel
theorem dL_law_329 : decode cL_law 329 = .ok (.iload_n 3, 1) := by decide +kernel
theorem dL_law_330 : decode cL_law 330 = .ok (.iconst 3, 1) := by decide +kernel
theorem dL_law_331 : decode cL_law 331 = .ok (.iadd, 1) := by decide +kernel
theorem dL_law_332 : decode cL_law 332 = .ok (.iaload, 1) := by decide +kernel
theorem dL_law_333 : decode cL_law 333 = .ok (.aload_n 0, 1) := by decide +kernel
theorem dL_law_334 : decode cL_law 334 = .ok (.iload_n 3, 1) := by decide +kernel
theorem dL_law_335 : decode cL_law 335 = .ok (.iconst 4, 1) := by decide +kernel
theorem dL_law_336 : decode cL_law 336 = .ok (.iadd, 1) := by decide +kernel
theorem dL_law_337 : decode cL_law 337 = .ok (.iaload, 1) := by decide +kernel
theorem dL_law_338 : decode cL_law 338 = .ok (.aload_n 0, 1) := by decide +kernel
theorem dL_law_339 : decode cL_law 339 = .ok (.iload_n 3, 1) := by decide +kernel
theorem dL_law_340 : decode cL_law 340 = .ok (.iconst 5, 1) := by decide +kernel
theorem dL_law_341 : decode cL_law 341 = .ok (.iadd, 1) := by decide +kernel
theorem dL_law_342 : decode cL_law 342 = .ok (.iaload, 1) := by decide +kernel
theorem dL_law_343 : decode cL_law 343 = .ok (.invokevirtual 17, 3) := by decide +kernel
theorem dL_law_346 : decode cL_law 346 = .ok (.if_icmp .eq 1682, 3) := by decide +kernel
theorem dL_law_349 : decode cL_law 349 = .ok (.iconst 0, 1) := by decide +kernel
theorem dL_law_350 : decode cL_law 350 = .ok (.ireturn, 1) := by decide +kernel
theorem dL_law_351 : decode cL_law 351 = .ok (.aload_n 1, 1) := by decide +kernel
theorem dL_law_352 : decode cL_law 352 = .ok (.aload_n 0, 1) := by decide +kernel
theorem dL_law_353 : decode cL_law 353 = .ok (.iload_n 3, 1) := by decide +kernel
theorem dL_law_354 : decode cL_law 354 = .ok (.iconst 1, 1) := by decide +kernel
theorem dL_law_355 : decode cL_law 355 = .ok (.iadd, 1) := by decide +kernel
theorem dL_law_356 : decode cL_law 356 = .ok (.iaload, 1) := by decide +kernel
theorem dL_law_357 : decode cL_law 357 = .ok (.invokevirtual 18, 3) := by decide +kernel
theorem dL_law_360 : decode cL_law 360 = .ok (.aload_n 2, 1) := by decide +kernel
theorem dL_law_361 : decode cL_law 361 = .ok (.aload_n 0, 1) := by decide +kernel
theorem dL_law_362 : decode cL_law 362 = .ok (.iload_n 3, 1) := by decide +kernel
theorem dL_law_363 : decode cL_law 363 = .ok (.iconst 1, 1) := by decide +kernel
theorem dL_law_364 : decode cL_law 364 = .ok (.iadd, 1) := by decide +kernel
theorem dL_law_365 : decode cL_law 365 = .ok (.iaload, 1) := by decide +kernel
theorem dL_law_366 : decode cL_law 366 = .ok (.invokevirtual 22, 3) := by decide +kernel
theorem dL_law_369 : decode cL_law 369 = .ok (.if_icmp .eq 1659, 3) := by decide +kernel
theorem dL_law_372 : decode cL_law 372 = .ok (.iconst 0, 1) := by decide +kernel
theorem dL_law_373 : decode cL_law 373 = .ok (.ireturn, 1) := by decide +kernel
theorem dL_law_374 : decode cL_law 374 = .ok (.aload_n 1, 1) := by decide +kernel
theorem dL_law_375 : decode cL_law 375 = .ok (.invokevirtual 23, 3) := by decide +kernel
theorem dL_law_378 : decode cL_law 378 = .ok (.aload_n 2, 1) := by decide +kernel
theorem dL_law_379 : decode cL_law 379 = .ok (.invokevirtual 27, 3) := by decide +kernel
theorem dL_law_382 : decode cL_law 382 = .ok (.if_icmp .eq 1646, 3) := by decide +kernel
theorem dL_law_385 : decode cL_law 385 = .ok (.iconst 0, 1) := by decide +kernel
theorem dL_law_386 : decode cL_law 386 = .ok (.ireturn, 1) := by decide +kernel
theorem dL_law_387 : decode cL_law 387 = .ok (.aload_n 1, 1) := by decide +kernel
theorem dL_law_388 : decode cL_law 388 = .ok (.aload_n 0, 1) := by decide +kernel
theorem dL_law_389 : decode cL_law 389 = .ok (.iload_n 3, 1) := by decide +kernel
theorem dL_law_390 : decode cL_law 390 = .ok (.iconst 1, 1) := by decide +kernel
theorem dL_law_391 : decode cL_law 391 = .ok (.iadd, 1) := by decide +kernel
theorem dL_law_392 : decode cL_law 392 = .ok (.iaload, 1) := by decide +kernel
theorem dL_law_393 : decode cL_law 393 = .ok (.invokevirtual 28, 3) := by decide +kernel
theorem dL_law_396 : decode cL_law 396 = .ok (.aload_n 2, 1) := by decide +kernel
theorem dL_law_397 : decode cL_law 397 = .ok (.aload_n 0, 1) := by decide +kernel
theorem dL_law_398 : decode cL_law 398 = .ok (.iload_n 3, 1) := by decide +kernel
theorem dL_law_399 : decode cL_law 399 = .ok (.iconst 1, 1) := by decide +kernel
theorem dL_law_400 : decode cL_law 400 = .ok (.iadd, 1) := by decide +kernel
theorem dL_law_401 : decode cL_law 401 = .ok (.iaload, 1) := by decide +kernel
theorem dL_law_402 : decode cL_law 402 = .ok (.invokevirtual 31, 3) := by decide +kernel
theorem dL_law_405 : decode cL_law 405 = .ok (.if_icmp .eq 1623, 3) := by decide +kernel
theorem dL_law_408 : decode cL_law 408 = .ok (.iconst 0, 1) := by decide +kernel
theorem dL_law_409 : decode cL_law 409 = .ok (.ireturn, 1) := by decide +kernel
theorem dL_law_410 : decode cL_law 410 = .ok (.aload_n 1, 1) := by decide +kernel
theorem dL_law_411 : decode cL_law 411 = .ok (.aload_n 0, 1) := by decide +kernel
theorem dL_law_412 : decode cL_law 412 = .ok (.iload_n 3, 1) := by decide +kernel
theorem dL_law_413 : decode cL_law 413 = .ok (.iconst 1, 1) := by decide +kernel
theorem dL_law_414 : decode cL_law 414 = .ok (.iadd, 1) := by decide +kernel
theorem dL_law_415 : decode cL_law 415 = .ok (.iaload, 1) := by decide +kernel
theorem dL_law_416 : decode cL_law 416 = .ok (.invokevirtual 32, 3) := by decide +kernel
theorem dL_law_419 : decode cL_law 419 = .ok (.aload_n 2, 1) := by decide +kernel
theorem dL_law_420 : decode cL_law 420 = .ok (.aload_n 0, 1) := by decide +kernel
theorem dL_law_421 : decode cL_law 421 = .ok (.iload_n 3, 1) := by decide +kernel
theorem dL_law_422 : decode cL_law 422 = .ok (.iconst 1, 1) := by decide +kernel
theorem dL_law_423 : decode cL_law 423 = .ok (.iadd, 1) := by decide +kernel
theorem dL_law_424 : decode cL_law 424 = .ok (.iaload, 1) := by decide +kernel
theorem dL_law_425 : decode cL_law 425 = .ok (.invokevirtual 35, 3) := by decide +kernel
theorem dL_law_428 : decode cL_law 428 = .ok (.if_icmp .eq 1600, 3) := by decide +kernel
theorem dL_law_431 : decode cL_law 431 = .ok (.iconst 0, 1) := by decide +kernel
theorem dL_law_432 : decode cL_law 432 = .ok (.ireturn, 1) := by decide +kernel
theorem dL_law_433 : decode cL_law 433 = .ok (.aload_n 1, 1) := by decide +kernel
theorem dL_law_434 : decode cL_law 434 = .ok (.aload_n 0, 1) := by decide +kernel
theorem dL_law_435 : decode cL_law 435 = .ok (.iload_n 3, 1) := by decide +kernel
theorem dL_law_436 : decode cL_law 436 = .ok (.iconst 1, 1) := by decide +kernel
theorem dL_law_437 : decode cL_law 437 = .ok (.iadd, 1) := by decide +kernel
theorem dL_law_438 : decode cL_law 438 = .ok (.iaload, 1) := by decide +kernel
theorem dL_law_439 : decode cL_law 439 = .ok (.aload_n 0, 1) := by decide +kernel
theorem dL_law_440 : decode cL_law 440 = .ok (.iload_n 3, 1) := by decide +kernel
theorem dL_law_441 : decode cL_law 441 = .ok (.iconst 2, 1) := by decide +kernel
theorem dL_law_442 : decode cL_law 442 = .ok (.iadd, 1) := by decide +kernel
theorem dL_law_443 : decode cL_law 443 = .ok (.iaload, 1) := by decide +kernel
theorem dL_law_444 : decode cL_law 444 = .ok (.invokevirtual 36, 3) := by decide +kernel
theorem dL_law_447 : decode cL_law 447 = .ok (.aload_n 2, 1) := by decide +kernel
theorem dL_law_448 : decode cL_law 448 = .ok (.aload_n 0, 1) := by decide +kernel
theorem dL_law_449 : decode cL_law 449 = .ok (.iload_n 3, 1) := by decide +kernel
theorem dL_law_450 : decode cL_law 450 = .ok (.iconst 1, 1) := by decide +kernel
theorem dL_law_451 : decode cL_law 451 = .ok (.iadd, 1) := by decide +kernel
theorem dL_law_452 : decode cL_law 452 = .ok (.iaload, 1) := by decide +kernel
theorem dL_law_453 : decode cL_law 453 = .ok (.aload_n 0, 1) := by decide +kernel
theorem dL_law_454 : decode cL_law 454 = .ok (.iload_n 3, 1) := by decide +kernel
theorem dL_law_455 : decode cL_law 455 = .ok (.iconst 2, 1) := by decide +kernel
theorem dL_law_456 : decode cL_law 456 = .ok (.iadd, 1) := by decide +kernel
theorem dL_law_457 : decode cL_law 457 = .ok (.iaload, 1) := by decide +kernel
theorem dL_law_458 : decode cL_law 458 = .ok (.invokevirtual 40, 3) := by decide +kernel
theorem dL_law_461 : decode cL_law 461 = .ok (.if_icmp .eq 1567, 3) := by decide +kernel
theorem dL_law_464 : decode cL_law 464 = .ok (.iconst 0, 1) := by decide +kernel
theorem dL_law_465 : decode cL_law 465 = .ok (.ireturn, 1) := by decide +kernel
theorem dL_law_466 : decode cL_law 466 = .ok (.aload_n 1, 1) := by decide +kernel
theorem dL_law_467 : decode cL_law 467 = .ok (.invokevirtual 41, 3) := by decide +kernel
theorem dL_law_470 : decode cL_law 470 = .ok (.aload_n 2, 1) := by decide +kernel
theorem dL_law_471 : decode cL_law 471 = .ok (.invokevirtual 44, 3) := by decide +kernel
theorem dL_law_474 : decode cL_law 474 = .ok (.if_icmp .eq 1554, 3) := by decide +kernel
theorem dL_law_477 : decode cL_law 477 = .ok (.iconst 0, 1) := by decide +kernel
theorem dL_law_478 : decode cL_law 478 = .ok (.ireturn, 1) := by decide +kernel
theorem dL_law_479 : decode cL_law 479 = .ok (.aload_n 1, 1) := by decide +kernel
theorem dL_law_480 : decode cL_law 480 = .ok (.aload_n 0, 1) := by decide +kernel
theorem dL_law_481 : decode cL_law 481 = .ok (.iload_n 3, 1) := by decide +kernel
theorem dL_law_482 : decode cL_law 482 = .ok (.iconst 1, 1) := by decide +kernel
theorem dL_law_483 : decode cL_law 483 = .ok (.iadd, 1) := by decide +kernel
theorem dL_law_484 : decode cL_law 484 = .ok (.iaload, 1) := by decide +kernel
theorem dL_law_485 : decode cL_law 485 = .ok (.aload_n 0, 1) := by decide +kernel
theorem dL_law_486 : decode cL_law 486 = .ok (.iload_n 3, 1) := by decide +kernel
theorem dL_law_487 : decode cL_law 487 = .ok (.iconst 2, 1) := by decide +kernel
theorem dL_law_488 : decode cL_law 488 = .ok (.iadd, 1) := by decide +kernel
theorem dL_law_489 : decode cL_law 489 = .ok (.iaload, 1) := by decide +kernel
theorem dL_law_490 : decode cL_law 490 = .ok (.invokevirtual 45, 3) := by decide +kernel
theorem dL_law_493 : decode cL_law 493 = .ok (.aload_n 2, 1) := by decide +kernel
theorem dL_law_494 : decode cL_law 494 = .ok (.aload_n 0, 1) := by decide +kernel
theorem dL_law_495 : decode cL_law 495 = .ok (.iload_n 3, 1) := by decide +kernel
theorem dL_law_496 : decode cL_law 496 = .ok (.iconst 1, 1) := by decide +kernel
theorem dL_law_497 : decode cL_law 497 = .ok (.iadd, 1) := by decide +kernel
theorem dL_law_498 : decode cL_law 498 = .ok (.iaload, 1) := by decide +kernel
theorem dL_law_499 : decode cL_law 499 = .ok (.aload_n 0, 1) := by decide +kernel
theorem dL_law_500 : decode cL_law 500 = .ok (.iload_n 3, 1) := by decide +kernel
theorem dL_law_501 : decode cL_law 501 = .ok (.iconst 2, 1) := by decide +kernel
theorem dL_law_502 : decode cL_law 502 = .ok (.iadd, 1) := by decide +kernel
theorem dL_law_503 : decode cL_law 503 = .ok (.iaload, 1) := by decide +kernel
theorem dL_law_504 : decode cL_law 504 = .ok (.invokevirtual 48, 3) := by decide +kernel
theorem dL_law_507 : decode cL_law 507 = .ok (.if_icmp .eq 1521, 3) := by decide +kernel
theorem dL_law_510 : decode cL_law 510 = .ok (.iconst 0, 1) := by decide +kernel
theorem dL_law_511 : decode cL_law 511 = .ok (.ireturn, 1) := by decide +kernel
theorem dL_law_512 : decode cL_law 512 = .ok (.aload_n 1, 1) := by decide +kernel
theorem dL_law_513 : decode cL_law 513 = .ok (.aload_n 0, 1) := by decide +kernel
theorem dL_law_514 : decode cL_law 514 = .ok (.iload_n 3, 1) := by decide +kernel
theorem dL_law_515 : decode cL_law 515 = .ok (.iconst 1, 1) := by decide +kernel
theorem dL_law_516 : decode cL_law 516 = .ok (.iadd, 1) := by decide +kernel
theorem dL_law_517 : decode cL_law 517 = .ok (.iaload, 1) := by decide +kernel
theorem dL_law_518 : decode cL_law 518 = .ok (.aload_n 0, 1) := by decide +kernel
theorem dL_law_519 : decode cL_law 519 = .ok (.iload_n 3, 1) := by decide +kernel
theorem dL_law_520 : decode cL_law 520 = .ok (.iconst 2, 1) := by decide +kernel
theorem dL_law_521 : decode cL_law 521 = .ok (.iadd, 1) := by decide +kernel
theorem dL_law_522 : decode cL_law 522 = .ok (.iaload, 1) := by decide +kernel
theorem dL_law_523 : decode cL_law 523 = .ok (.invokevirtual 49, 3) := by decide +kernel
theorem dL_law_526 : decode cL_law 526 = .ok (.aload_n 2, 1) := by decide +kernel
theorem dL_law_527 : decode cL_law 527 = .ok (.aload_n 0, 1) := by decide +kernel
theorem dL_law_528 : decode cL_law 528 = .ok (.iload_n 3, 1) := by decide +kernel
theorem dL_law_529 : decode cL_law 529 = .ok (.iconst 1, 1) := by decide +kernel
theorem dL_law_530 : decode cL_law 530 = .ok (.iadd, 1) := by decide +kernel
theorem dL_law_531 : decode cL_law 531 = .ok (.iaload, 1) := by decide +kernel
theorem dL_law_532 : decode cL_law 532 = .ok (.aload_n 0, 1) := by decide +kernel
theorem dL_law_533 : decode cL_law 533 = .ok (.iload_n 3, 1) := by decide +kernel
theorem dL_law_534 : decode cL_law 534 = .ok (.iconst 2, 1) := by decide +kernel
theorem dL_law_535 : decode cL_law 535 = .ok (.iadd, 1) := by decide +kernel
theorem dL_law_536 : decode cL_law 536 = .ok (.iaload, 1) := by decide +kernel
theorem dL_law_537 : decode cL_law 537 = .ok (.invokevirtual 52, 3) := by decide +kernel
theorem dL_law_540 : decode cL_law 540 = .ok (.if_icmp .eq 1488, 3) := by decide +kernel
theorem dL_law_543 : decode cL_law 543 = .ok (.iconst 0, 1) := by decide +kernel
theorem dL_law_544 : decode cL_law 544 = .ok (.ireturn, 1) := by decide +kernel
theorem dL_law_545 : decode cL_law 545 = .ok (.aload_n 1, 1) := by decide +kernel
theorem dL_law_546 : decode cL_law 546 = .ok (.aload_n 0, 1) := by decide +kernel
theorem dL_law_547 : decode cL_law 547 = .ok (.iload_n 3, 1) := by decide +kernel
theorem dL_law_548 : decode cL_law 548 = .ok (.iconst 1, 1) := by decide +kernel
theorem dL_law_549 : decode cL_law 549 = .ok (.iadd, 1) := by decide +kernel
theorem dL_law_550 : decode cL_law 550 = .ok (.iaload, 1) := by decide +kernel
theorem dL_law_551 : decode cL_law 551 = .ok (.aload_n 0, 1) := by decide +kernel
theorem dL_law_552 : decode cL_law 552 = .ok (.iload_n 3, 1) := by decide +kernel
theorem dL_law_553 : decode cL_law 553 = .ok (.iconst 2, 1) := by decide +kernel
theorem dL_law_554 : decode cL_law 554 = .ok (.iadd, 1) := by decide +kernel
theorem dL_law_555 : decode cL_law 555 = .ok (.iaload, 1) := by decide +kernel
theorem dL_law_556 : decode cL_law 556 = .ok (.invokevirtual 53, 3) := by decide +kernel
theorem dL_law_559 : decode cL_law 559 = .ok (.aload_n 2, 1) := by decide +kernel
theorem dL_law_560 : decode cL_law 560 = .ok (.aload_n 0, 1) := by decide +kernel
theorem dL_law_561 : decode cL_law 561 = .ok (.iload_n 3, 1) := by decide +kernel
theorem dL_law_562 : decode cL_law 562 = .ok (.iconst 1, 1) := by decide +kernel
theorem dL_law_563 : decode cL_law 563 = .ok (.iadd, 1) := by decide +kernel
theorem dL_law_564 : decode cL_law 564 = .ok (.iaload, 1) := by decide +kernel
theorem dL_law_565 : decode cL_law 565 = .ok (.aload_n 0, 1) := by decide +kernel
theorem dL_law_566 : decode cL_law 566 = .ok (.iload_n 3, 1) := by decide +kernel
theorem dL_law_567 : decode cL_law 567 = .ok (.iconst 2, 1) := by decide +kernel
theorem dL_law_568 : decode cL_law 568 = .ok (.iadd, 1) := by decide +kernel
theorem dL_law_569 : decode cL_law 569 = .ok (.iaload, 1) := by decide +kernel
theorem dL_law_570 : decode cL_law 570 = .ok (.invokevirtual 56, 3) := by decide +kernel
theorem dL_law_573 : decode cL_law 573 = .ok (.if_icmp .eq 1455, 3) := by decide +kernel
theorem dL_law_576 : decode cL_law 576 = .ok (.iconst 0, 1) := by decide +kernel
theorem dL_law_577 : decode cL_law 577 = .ok (.ireturn, 1) := by decide +kernel
theorem dL_law_578 : decode cL_law 578 = .ok (.aload_n 1, 1) := by decide +kernel
theorem dL_law_579 : decode cL_law 579 = .ok (.aload_n 0, 1) := by decide +kernel
theorem dL_law_580 : decode cL_law 580 = .ok (.iload_n 3, 1) := by decide +kernel
theorem dL_law_581 : decode cL_law 581 = .ok (.iconst 1, 1) := by decide +kernel
theorem dL_law_582 : decode cL_law 582 = .ok (.iadd, 1) := by decide +kernel
theorem dL_law_583 : decode cL_law 583 = .ok (.iaload, 1) := by decide +kernel
theorem dL_law_584 : decode cL_law 584 = .ok (.aload_n 0, 1) := by decide +kernel
theorem dL_law_585 : decode cL_law 585 = .ok (.iload_n 3, 1) := by decide +kernel
theorem dL_law_586 : decode cL_law 586 = .ok (.iconst 2, 1) := by decide +kernel
theorem dL_law_587 : decode cL_law 587 = .ok (.iadd, 1) := by decide +kernel
theorem dL_law_588 : decode cL_law 588 = .ok (.iaload, 1) := by decide +kernel
theorem dL_law_589 : decode cL_law 589 = .ok (.invokevirtual 57, 3) := by decide +kernel
theorem dL_law_592 : decode cL_law 592 = .ok (.aload_n 2, 1) := by decide +kernel
theorem dL_law_593 : decode cL_law 593 = .ok (.aload_n 0, 1) := by decide +kernel
theorem dL_law_594 : decode cL_law 594 = .ok (.iload_n 3, 1) := by decide +kernel
theorem dL_law_595 : decode cL_law 595 = .ok (.iconst 1, 1) := by decide +kernel
theorem dL_law_596 : decode cL_law 596 = .ok (.iadd, 1) := by decide +kernel
theorem dL_law_597 : decode cL_law 597 = .ok (.iaload, 1) := by decide +kernel
theorem dL_law_598 : decode cL_law 598 = .ok (.aload_n 0, 1) := by decide +kernel
theorem dL_law_599 : decode cL_law 599 = .ok (.iload_n 3, 1) := by decide +kernel
theorem dL_law_600 : decode cL_law 600 = .ok (.iconst 2, 1) := by decide +kernel
theorem dL_law_601 : decode cL_law 601 = .ok (.iadd, 1) := by decide +kernel
theorem dL_law_602 : decode cL_law 602 = .ok (.iaload, 1) := by decide +kernel
theorem dL_law_603 : decode cL_law 603 = .ok (.invokevirtual 60, 3) := by decide +kernel
theorem dL_law_606 : decode cL_law 606 = .ok (.if_icmp .eq 1422, 3) := by decide +kernel
theorem dL_law_609 : decode cL_law 609 = .ok (.iconst 0, 1) := by decide +kernel
theorem dL_law_610 : decode cL_law 610 = .ok (.ireturn, 1) := by decide +kernel
theorem dL_law_611 : decode cL_law 611 = .ok (.aload_n 1, 1) := by decide +kernel
theorem dL_law_612 : decode cL_law 612 = .ok (.aload_n 0, 1) := by decide +kernel
theorem dL_law_613 : decode cL_law 613 = .ok (.iload_n 3, 1) := by decide +kernel
theorem dL_law_614 : decode cL_law 614 = .ok (.iconst 1, 1) := by decide +kernel
theorem dL_law_615 : decode cL_law 615 = .ok (.iadd, 1) := by decide +kernel
theorem dL_law_616 : decode cL_law 616 = .ok (.iaload, 1) := by decide +kernel
theorem dL_law_617 : decode cL_law 617 = .ok (.aload_n 0, 1) := by decide +kernel
theorem dL_law_618 : decode cL_law 618 = .ok (.iload_n 3, 1) := by decide +kernel
theorem dL_law_619 : decode cL_law 619 = .ok (.iconst 2, 1) := by decide +kernel
theorem dL_law_620 : decode cL_law 620 = .ok (.iadd, 1) := by decide +kernel
theorem dL_law_621 : decode cL_law 621 = .ok (.iaload, 1) := by decide +kernel
theorem dL_law_622 : decode cL_law 622 = .ok (.invokevirtual 61, 3) := by decide +kernel
theorem dL_law_625 : decode cL_law 625 = .ok (.aload_n 2, 1) := by decide +kernel
theorem dL_law_626 : decode cL_law 626 = .ok (.aload_n 0, 1) := by decide +kernel
theorem dL_law_627 : decode cL_law 627 = .ok (.iload_n 3, 1) := by decide +kernel
theorem dL_law_628 : decode cL_law 628 = .ok (.iconst 1, 1) := by decide +kernel
theorem dL_law_629 : decode cL_law 629 = .ok (.iadd, 1) := by decide +kernel
theorem dL_law_630 : decode cL_law 630 = .ok (.iaload, 1) := by decide +kernel
theorem dL_law_631 : decode cL_law 631 = .ok (.aload_n 0, 1) := by decide +kernel
theorem dL_law_632 : decode cL_law 632 = .ok (.iload_n 3, 1) := by decide +kernel
theorem dL_law_633 : decode cL_law 633 = .ok (.iconst 2, 1) := by decide +kernel
theorem dL_law_634 : decode cL_law 634 = .ok (.iadd, 1) := by decide +kernel
theorem dL_law_635 : decode cL_law 635 = .ok (.iaload, 1) := by decide +kernel
theorem dL_law_636 : decode cL_law 636 = .ok (.invokevirtual 64, 3) := by decide +kernel
theorem dL_law_639 : decode cL_law 639 = .ok (.if_icmp .eq 1389, 3) := by decide +kernel
theorem dL_law_642 : decode cL_law 642 = .ok (.iconst 0, 1) := by decide +kernel
theorem dL_law_643 : decode cL_law 643 = .ok (.ireturn, 1) := by decide +kernel
theorem dL_law_644 : decode cL_law 644 = .ok (.aload_n 1, 1) := by decide +kernel
theorem dL_law_645 : decode cL_law 645 = .ok (.aload_n 0, 1) := by decide +kernel
theorem dL_law_646 : decode cL_law 646 = .ok (.iload_n 3, 1) := by decide +kernel
theorem dL_law_647 : decode cL_law 647 = .ok (.iconst 1, 1) := by decide +kernel
theorem dL_law_648 : decode cL_law 648 = .ok (.iadd, 1) := by decide +kernel
theorem dL_law_649 : decode cL_law 649 = .ok (.iaload, 1) := by decide +kernel
theorem dL_law_650 : decode cL_law 650 = .ok (.aload_n 0, 1) := by decide +kernel
theorem dL_law_651 : decode cL_law 651 = .ok (.iload_n 3, 1) := by decide +kernel
theorem dL_law_652 : decode cL_law 652 = .ok (.iconst 2, 1) := by decide +kernel
theorem dL_law_653 : decode cL_law 653 = .ok (.iadd, 1) := by decide +kernel
theorem dL_law_654 : decode cL_law 654 = .ok (.iaload, 1) := by decide +kernel
theorem dL_law_655 : decode cL_law 655 = .ok (.aload_n 0, 1) := by decide +kernel
theorem dL_law_656 : decode cL_law 656 = .ok (.iload_n 3, 1) := by decide +kernel
theorem dL_law_657 : decode cL_law 657 = .ok (.iconst 3, 1) := by decide +kernel
theorem dL_law_658 : decode cL_law 658 = .ok (.iadd, 1) := by decide +kernel
theorem dL_law_659 : decode cL_law 659 = .ok (.iaload, 1) := by decide +kernel
theorem dL_law_660 : decode cL_law 660 = .ok (.aload_n 0, 1) := by decide +kernel
theorem dL_law_661 : decode cL_law 661 = .ok (.iload_n 3, 1) := by decide +kernel
theorem dL_law_662 : decode cL_law 662 = .ok (.iconst 4, 1) := by decide +kernel
theorem dL_law_663 : decode cL_law 663 = .ok (.iadd, 1) := by decide +kernel
theorem dL_law_664 : decode cL_law 664 = .ok (.iaload, 1) := by decide +kernel
theorem dL_law_665 : decode cL_law 665 = .ok (.invokevirtual 65, 3) := by decide +kernel
theorem dL_law_668 : decode cL_law 668 = .ok (.aload_n 2, 1) := by decide +kernel
theorem dL_law_669 : decode cL_law 669 = .ok (.aload_n 0, 1) := by decide +kernel
theorem dL_law_670 : decode cL_law 670 = .ok (.iload_n 3, 1) := by decide +kernel
theorem dL_law_671 : decode cL_law 671 = .ok (.iconst 1, 1) := by decide +kernel
theorem dL_law_672 : decode cL_law 672 = .ok (.iadd, 1) := by decide +kernel
theorem dL_law_673 : decode cL_law 673 = .ok (.iaload, 1) := by decide +kernel
theorem dL_law_674 : decode cL_law 674 = .ok (.aload_n 0, 1) := by decide +kernel
theorem dL_law_675 : decode cL_law 675 = .ok (.iload_n 3, 1) := by decide +kernel
theorem dL_law_676 : decode cL_law 676 = .ok (.iconst 2, 1) := by decide +kernel
theorem dL_law_677 : decode cL_law 677 = .ok (.iadd, 1) := by decide +kernel
theorem dL_law_678 : decode cL_law 678 = .ok (.iaload, 1) := by decide +kernel
theorem dL_law_679 : decode cL_law 679 = .ok (.aload_n 0, 1) := by decide +kernel
theorem dL_law_680 : decode cL_law 680 = .ok (.iload_n 3, 1) := by decide +kernel
theorem dL_law_681 : decode cL_law 681 = .ok (.iconst 3, 1) := by decide +kernel
theorem dL_law_682 : decode cL_law 682 = .ok (.iadd, 1) := by decide +kernel
theorem dL_law_683 : decode cL_law 683 = .ok (.iaload, 1) := by decide +kernel
theorem dL_law_684 : decode cL_law 684 = .ok (.aload_n 0, 1) := by decide +kernel
theorem dL_law_685 : decode cL_law 685 = .ok (.iload_n 3, 1) := by decide +kernel
theorem dL_law_686 : decode cL_law 686 = .ok (.iconst 4, 1) := by decide +kernel
theorem dL_law_687 : decode cL_law 687 = .ok (.iadd, 1) := by decide +kernel
theorem dL_law_688 : decode cL_law 688 = .ok (.iaload, 1) := by decide +kernel
theorem dL_law_689 : decode cL_law 689 = .ok (.invokevirtual 69, 3) := by decide +kernel
theorem dL_law_692 : decode cL_law 692 = .ok (.if_icmp .eq 1336, 3) := by decide +kernel
theorem dL_law_695 : decode cL_law 695 = .ok (.iconst 0, 1) := by decide +kernel
theorem dL_law_696 : decode cL_law 696 = .ok (.ireturn, 1) := by decide +kernel
theorem dL_law_697 : decode cL_law 697 = .ok (.aload_n 1, 1) := by decide +kernel
theorem dL_law_698 : decode cL_law 698 = .ok (.aload_n 0, 1) := by decide +kernel
theorem dL_law_699 : decode cL_law 699 = .ok (.iload_n 3, 1) := by decide +kernel
theorem dL_law_700 : decode cL_law 700 = .ok (.iconst 1, 1) := by decide +kernel
theorem dL_law_701 : decode cL_law 701 = .ok (.iadd, 1) := by decide +kernel
theorem dL_law_702 : decode cL_law 702 = .ok (.iaload, 1) := by decide +kernel
theorem dL_law_703 : decode cL_law 703 = .ok (.aload_n 0, 1) := by decide +kernel
theorem dL_law_704 : decode cL_law 704 = .ok (.iload_n 3, 1) := by decide +kernel
theorem dL_law_705 : decode cL_law 705 = .ok (.iconst 2, 1) := by decide +kernel
theorem dL_law_706 : decode cL_law 706 = .ok (.iadd, 1) := by decide +kernel
theorem dL_law_707 : decode cL_law 707 = .ok (.iaload, 1) := by decide +kernel
theorem dL_law_708 : decode cL_law 708 = .ok (.aload_n 0, 1) := by decide +kernel
theorem dL_law_709 : decode cL_law 709 = .ok (.iload_n 3, 1) := by decide +kernel
theorem dL_law_710 : decode cL_law 710 = .ok (.iconst 3, 1) := by decide +kernel
theorem dL_law_711 : decode cL_law 711 = .ok (.iadd, 1) := by decide +kernel
theorem dL_law_712 : decode cL_law 712 = .ok (.iaload, 1) := by decide +kernel
theorem dL_law_713 : decode cL_law 713 = .ok (.aload_n 0, 1) := by decide +kernel
theorem dL_law_714 : decode cL_law 714 = .ok (.iload_n 3, 1) := by decide +kernel
theorem dL_law_715 : decode cL_law 715 = .ok (.iconst 4, 1) := by decide +kernel
theorem dL_law_716 : decode cL_law 716 = .ok (.iadd, 1) := by decide +kernel
theorem dL_law_717 : decode cL_law 717 = .ok (.iaload, 1) := by decide +kernel
theorem dL_law_718 : decode cL_law 718 = .ok (.invokevirtual 70, 3) := by decide +kernel
theorem dL_law_721 : decode cL_law 721 = .ok (.aload_n 2, 1) := by decide +kernel
theorem dL_law_722 : decode cL_law 722 = .ok (.aload_n 0, 1) := by decide +kernel
theorem dL_law_723 : decode cL_law 723 = .ok (.iload_n 3, 1) := by decide +kernel
theorem dL_law_724 : decode cL_law 724 = .ok (.iconst 1, 1) := by decide +kernel
theorem dL_law_725 : decode cL_law 725 = .ok (.iadd, 1) := by decide +kernel
theorem dL_law_726 : decode cL_law 726 = .ok (.iaload, 1) := by decide +kernel
theorem dL_law_727 : decode cL_law 727 = .ok (.aload_n 0, 1) := by decide +kernel
theorem dL_law_728 : decode cL_law 728 = .ok (.iload_n 3, 1) := by decide +kernel
theorem dL_law_729 : decode cL_law 729 = .ok (.iconst 2, 1) := by decide +kernel
theorem dL_law_730 : decode cL_law 730 = .ok (.iadd, 1) := by decide +kernel
theorem dL_law_731 : decode cL_law 731 = .ok (.iaload, 1) := by decide +kernel
theorem dL_law_732 : decode cL_law 732 = .ok (.aload_n 0, 1) := by decide +kernel
theorem dL_law_733 : decode cL_law 733 = .ok (.iload_n 3, 1) := by decide +kernel
theorem dL_law_734 : decode cL_law 734 = .ok (.iconst 3, 1) := by decide +kernel
theorem dL_law_735 : decode cL_law 735 = .ok (.iadd, 1) := by decide +kernel
theorem dL_law_736 : decode cL_law 736 = .ok (.iaload, 1) := by decide +kernel
theorem dL_law_737 : decode cL_law 737 = .ok (.aload_n 0, 1) := by decide +kernel
theorem dL_law_738 : decode cL_law 738 = .ok (.iload_n 3, 1) := by decide +kernel
theorem dL_law_739 : decode cL_law 739 = .ok (.iconst 4, 1) := by decide +kernel
theorem dL_law_740 : decode cL_law 740 = .ok (.iadd, 1) := by decide +kernel
theorem dL_law_741 : decode cL_law 741 = .ok (.iaload, 1) := by decide +kernel
theorem dL_law_742 : decode cL_law 742 = .ok (.invokevirtual 73, 3) := by decide +kernel
theorem dL_law_745 : decode cL_law 745 = .ok (.if_icmp .eq 1283, 3) := by decide +kernel
theorem dL_law_748 : decode cL_law 748 = .ok (.iconst 0, 1) := by decide +kernel
theorem dL_law_749 : decode cL_law 749 = .ok (.ireturn, 1) := by decide +kernel
theorem dL_law_750 : decode cL_law 750 = .ok (.aload_n 1, 1) := by decide +kernel
theorem dL_law_751 : decode cL_law 751 = .ok (.aload_n 0, 1) := by decide +kernel
theorem dL_law_752 : decode cL_law 752 = .ok (.iload_n 3, 1) := by decide +kernel
theorem dL_law_753 : decode cL_law 753 = .ok (.iconst 1, 1) := by decide +kernel
theorem dL_law_754 : decode cL_law 754 = .ok (.iadd, 1) := by decide +kernel
theorem dL_law_755 : decode cL_law 755 = .ok (.iaload, 1) := by decide +kernel
theorem dL_law_756 : decode cL_law 756 = .ok (.aload_n 0, 1) := by decide +kernel
theorem dL_law_757 : decode cL_law 757 = .ok (.iload_n 3, 1) := by decide +kernel
theorem dL_law_758 : decode cL_law 758 = .ok (.iconst 2, 1) := by decide +kernel
theorem dL_law_759 : decode cL_law 759 = .ok (.iadd, 1) := by decide +kernel
theorem dL_law_760 : decode cL_law 760 = .ok (.iaload, 1) := by decide +kernel
theorem dL_law_761 : decode cL_law 761 = .ok (.aload_n 0, 1) := by decide +kernel
theorem dL_law_762 : decode cL_law 762 = .ok (.iload_n 3, 1) := by decide +kernel
theorem dL_law_763 : decode cL_law 763 = .ok (.iconst 3, 1) := by decide +kernel
theorem dL_law_764 : decode cL_law 764 = .ok (.iadd, 1) := by decide +kernel
theorem dL_law_765 : decode cL_law 765 = .ok (.iaload, 1) := by decide +kernel
theorem dL_law_766 : decode cL_law 766 = .ok (.aload_n 0, 1) := by decide +kernel
theorem dL_law_767 : decode cL_law 767 = .ok (.iload_n 3, 1) := by decide +kernel
theorem dL_law_768 : decode cL_law 768 = .ok (.iconst 4, 1) := by decide +kernel
theorem dL_law_769 : decode cL_law 769 = .ok (.iadd, 1) := by decide +kernel
theorem dL_law_770 : decode cL_law 770 = .ok (.iaload, 1) := by decide +kernel
theorem dL_law_771 : decode cL_law 771 = .ok (.invokevirtual 74, 3) := by decide +kernel
theorem dL_law_774 : decode cL_law 774 = .ok (.aload_n 2, 1) := by decide +kernel
theorem dL_law_775 : decode cL_law 775 = .ok (.aload_n 0, 1) := by decide +kernel
theorem dL_law_776 : decode cL_law 776 = .ok (.iload_n 3, 1) := by decide +kernel
theorem dL_law_777 : decode cL_law 777 = .ok (.iconst 1, 1) := by decide +kernel
theorem dL_law_778 : decode cL_law 778 = .ok (.iadd, 1) := by decide +kernel
theorem dL_law_779 : decode cL_law 779 = .ok (.iaload, 1) := by decide +kernel
theorem dL_law_780 : decode cL_law 780 = .ok (.aload_n 0, 1) := by decide +kernel
theorem dL_law_781 : decode cL_law 781 = .ok (.iload_n 3, 1) := by decide +kernel
theorem dL_law_782 : decode cL_law 782 = .ok (.iconst 2, 1) := by decide +kernel
theorem dL_law_783 : decode cL_law 783 = .ok (.iadd, 1) := by decide +kernel
theorem dL_law_784 : decode cL_law 784 = .ok (.iaload, 1) := by decide +kernel
theorem dL_law_785 : decode cL_law 785 = .ok (.aload_n 0, 1) := by decide +kernel
theorem dL_law_786 : decode cL_law 786 = .ok (.iload_n 3, 1) := by decide +kernel
theorem dL_law_787 : decode cL_law 787 = .ok (.iconst 3, 1) := by decide +kernel
theorem dL_law_788 : decode cL_law 788 = .ok (.iadd, 1) := by decide +kernel
theorem dL_law_789 : decode cL_law 789 = .ok (.iaload, 1) := by decide +kernel
theorem dL_law_790 : decode cL_law 790 = .ok (.aload_n 0, 1) := by decide +kernel
theorem dL_law_791 : decode cL_law 791 = .ok (.iload_n 3, 1) := by decide +kernel
theorem dL_law_792 : decode cL_law 792 = .ok (.iconst 4, 1) := by decide +kernel
theorem dL_law_793 : decode cL_law 793 = .ok (.iadd, 1) := by decide +kernel
theorem dL_law_794 : decode cL_law 794 = .ok (.iaload, 1) := by decide +kernel
theorem dL_law_795 : decode cL_law 795 = .ok (.invokevirtual 77, 3) := by decide +kernel
theorem dL_law_798 : decode cL_law 798 = .ok (.if_icmp .eq 1230, 3) := by decide +kernel
theorem dL_law_801 : decode cL_law 801 = .ok (.iconst 0, 1) := by decide +kernel
theorem dL_law_802 : decode cL_law 802 = .ok (.ireturn, 1) := by decide +kernel
theorem dL_law_803 : decode cL_law 803 = .ok (.aload_n 1, 1) := by decide +kernel
theorem dL_law_804 : decode cL_law 804 = .ok (.aload_n 0, 1) := by decide +kernel
theorem dL_law_805 : decode cL_law 805 = .ok (.iload_n 3, 1) := by decide +kernel
theorem dL_law_806 : decode cL_law 806 = .ok (.iconst 1, 1) := by decide +kernel
theorem dL_law_807 : decode cL_law 807 = .ok (.iadd, 1) := by decide +kernel
theorem dL_law_808 : decode cL_law 808 = .ok (.iaload, 1) := by decide +kernel
theorem dL_law_809 : decode cL_law 809 = .ok (.aload_n 0, 1) := by decide +kernel
theorem dL_law_810 : decode cL_law 810 = .ok (.iload_n 3, 1) := by decide +kernel
theorem dL_law_811 : decode cL_law 811 = .ok (.iconst 2, 1) := by decide +kernel
theorem dL_law_812 : decode cL_law 812 = .ok (.iadd, 1) := by decide +kernel
theorem dL_law_813 : decode cL_law 813 = .ok (.iaload, 1) := by decide +kernel
theorem dL_law_814 : decode cL_law 814 = .ok (.invokevirtual 78, 3) := by decide +kernel
theorem dL_law_817 : decode cL_law 817 = .ok (.aload_n 2, 1) := by decide +kernel
theorem dL_law_818 : decode cL_law 818 = .ok (.aload_n 0, 1) := by decide +kernel
theorem dL_law_819 : decode cL_law 819 = .ok (.iload_n 3, 1) := by decide +kernel
theorem dL_law_820 : decode cL_law 820 = .ok (.iconst 1, 1) := by decide +kernel
theorem dL_law_821 : decode cL_law 821 = .ok (.iadd, 1) := by decide +kernel
theorem dL_law_822 : decode cL_law 822 = .ok (.iaload, 1) := by decide +kernel
theorem dL_law_823 : decode cL_law 823 = .ok (.aload_n 0, 1) := by decide +kernel
theorem dL_law_824 : decode cL_law 824 = .ok (.iload_n 3, 1) := by decide +kernel
theorem dL_law_825 : decode cL_law 825 = .ok (.iconst 2, 1) := by decide +kernel
theorem dL_law_826 : decode cL_law 826 = .ok (.iadd, 1) := by decide +kernel
theorem dL_law_827 : decode cL_law 827 = .ok (.iaload, 1) := by decide +kernel
theorem dL_law_828 : decode cL_law 828 = .ok (.invokevirtual 81, 3) := by decide +kernel
theorem dL_law_831 : decode cL_law 831 = .ok (.if_icmp .eq 1197, 3) := by decide +kernel
theorem dL_law_834 : decode cL_law 834 = .ok (.iconst 0, 1) := by decide +kernel
theorem dL_law_835 : decode cL_law 835 = .ok (.ireturn, 1) := by decide +kernel
theorem dL_law_836 : decode cL_law 836 = .ok (.aload_n 1, 1) := by decide +kernel
theorem dL_law_837 : decode cL_law 837 = .ok (.aload_n 0, 1) := by decide +kernel
theorem dL_law_838 : decode cL_law 838 = .ok (.iload_n 3, 1) := by decide +kernel
theorem dL_law_839 : decode cL_law 839 = .ok (.iconst 1, 1) := by decide +kernel
theorem dL_law_840 : decode cL_law 840 = .ok (.iadd, 1) := by decide +kernel
theorem dL_law_841 : decode cL_law 841 = .ok (.iaload, 1) := by decide +kernel
theorem dL_law_842 : decode cL_law 842 = .ok (.invokevirtual 82, 3) := by decide +kernel
theorem dL_law_845 : decode cL_law 845 = .ok (.aload_n 2, 1) := by decide +kernel
theorem dL_law_846 : decode cL_law 846 = .ok (.aload_n 0, 1) := by decide +kernel
theorem dL_law_847 : decode cL_law 847 = .ok (.iload_n 3, 1) := by decide +kernel
theorem dL_law_848 : decode cL_law 848 = .ok (.iconst 1, 1) := by decide +kernel
theorem dL_law_849 : decode cL_law 849 = .ok (.iadd, 1) := by decide +kernel
theorem dL_law_850 : decode cL_law 850 = .ok (.iaload, 1) := by decide +kernel
theorem dL_law_851 : decode cL_law 851 = .ok (.invokevirtual 85, 3) := by decide +kernel
theorem dL_law_854 : decode cL_law 854 = .ok (.if_icmp .eq 1174, 3) := by decide +kernel
theorem dL_law_857 : decode cL_law 857 = .ok (.iconst 0, 1) := by decide +kernel
theorem dL_law_858 : decode cL_law 858 = .ok (.ireturn, 1) := by decide +kernel
theorem dL_law_859 : decode cL_law 859 = .ok (.aload_n 1, 1) := by decide +kernel
theorem dL_law_860 : decode cL_law 860 = .ok (.aload_n 0, 1) := by decide +kernel
theorem dL_law_861 : decode cL_law 861 = .ok (.iload_n 3, 1) := by decide +kernel
theorem dL_law_862 : decode cL_law 862 = .ok (.iconst 1, 1) := by decide +kernel
theorem dL_law_863 : decode cL_law 863 = .ok (.iadd, 1) := by decide +kernel
theorem dL_law_864 : decode cL_law 864 = .ok (.iaload, 1) := by decide +kernel
theorem dL_law_865 : decode cL_law 865 = .ok (.invokevirtual 86, 3) := by decide +kernel
theorem dL_law_868 : decode cL_law 868 = .ok (.aload_n 2, 1) := by decide +kernel
theorem dL_law_869 : decode cL_law 869 = .ok (.aload_n 0, 1) := by decide +kernel
theorem dL_law_870 : decode cL_law 870 = .ok (.iload_n 3, 1) := by decide +kernel
theorem dL_law_871 : decode cL_law 871 = .ok (.iconst 1, 1) := by decide +kernel
theorem dL_law_872 : decode cL_law 872 = .ok (.iadd, 1) := by decide +kernel
theorem dL_law_873 : decode cL_law 873 = .ok (.iaload, 1) := by decide +kernel
theorem dL_law_874 : decode cL_law 874 = .ok (.invokevirtual 89, 3) := by decide +kernel
theorem dL_law_877 : decode cL_law 877 = .ok (.if_icmp .eq 1151, 3) := by decide +kernel
theorem dL_law_880 : decode cL_law 880 = .ok (.iconst 0, 1) := by decide +kernel
theorem dL_law_881 : decode cL_law 881 = .ok (.ireturn, 1) := by decide +kernel
theorem dL_law_882 : decode cL_law 882 = .ok (.aload_n 1, 1) := by decide +kernel
theorem dL_law_883 : decode cL_law 883 = .ok (.aload_n 0, 1) := by decide +kernel
theorem dL_law_884 : decode cL_law 884 = .ok (.iload_n 3, 1) := by decide +kernel
theorem dL_law_885 : decode cL_law 885 = .ok (.iconst 1, 1) := by decide +kernel
theorem dL_law_886 : decode cL_law 886 = .ok (.iadd, 1) := by decide +kernel
theorem dL_law_887 : decode cL_law 887 = .ok (.iaload, 1) := by decide +kernel
theorem dL_law_888 : decode cL_law 888 = .ok (.aload_n 0, 1) := by decide +kernel
theorem dL_law_889 : decode cL_law 889 = .ok (.iload_n 3, 1) := by decide +kernel
theorem dL_law_890 : decode cL_law 890 = .ok (.iconst 2, 1) := by decide +kernel
theorem dL_law_891 : decode cL_law 891 = .ok (.iadd, 1) := by decide +kernel
theorem dL_law_892 : decode cL_law 892 = .ok (.iaload, 1) := by decide +kernel
theorem dL_law_893 : decode cL_law 893 = .ok (.invokevirtual 90, 3) := by decide +kernel
theorem dL_law_896 : decode cL_law 896 = .ok (.aload_n 2, 1) := by decide +kernel
theorem dL_law_897 : decode cL_law 897 = .ok (.aload_n 0, 1) := by decide +kernel
theorem dL_law_898 : decode cL_law 898 = .ok (.iload_n 3, 1) := by decide +kernel
theorem dL_law_899 : decode cL_law 899 = .ok (.iconst 1, 1) := by decide +kernel
theorem dL_law_900 : decode cL_law 900 = .ok (.iadd, 1) := by decide +kernel
theorem dL_law_901 : decode cL_law 901 = .ok (.iaload, 1) := by decide +kernel
theorem dL_law_902 : decode cL_law 902 = .ok (.aload_n 0, 1) := by decide +kernel
theorem dL_law_903 : decode cL_law 903 = .ok (.iload_n 3, 1) := by decide +kernel
theorem dL_law_904 : decode cL_law 904 = .ok (.iconst 2, 1) := by decide +kernel
theorem dL_law_905 : decode cL_law 905 = .ok (.iadd, 1) := by decide +kernel
theorem dL_law_906 : decode cL_law 906 = .ok (.iaload, 1) := by decide +kernel
theorem dL_law_907 : decode cL_law 907 = .ok (.invokevirtual 93, 3) := by decide +kernel
theorem dL_law_910 : decode cL_law 910 = .ok (.if_icmp .eq 1118, 3) := by decide +kernel
theorem dL_law_913 : decode cL_law 913 = .ok (.iconst 0, 1) := by decide +kernel
theorem dL_law_914 : decode cL_law 914 = .ok (.ireturn, 1) := by decide +kernel
theorem dL_law_915 : decode cL_law 915 = .ok (.aload_n 1, 1) := by decide +kernel
theorem dL_law_916 : decode cL_law 916 = .ok (.aload_n 0, 1) := by decide +kernel
theorem dL_law_917 : decode cL_law 917 = .ok (.iload_n 3, 1) := by decide +kernel
theorem dL_law_918 : decode cL_law 918 = .ok (.iconst 1, 1) := by decide +kernel
theorem dL_law_919 : decode cL_law 919 = .ok (.iadd, 1) := by decide +kernel
theorem dL_law_920 : decode cL_law 920 = .ok (.iaload, 1) := by decide +kernel
theorem dL_law_921 : decode cL_law 921 = .ok (.aload_n 0, 1) := by decide +kernel
theorem dL_law_922 : decode cL_law 922 = .ok (.iload_n 3, 1) := by decide +kernel
theorem dL_law_923 : decode cL_law 923 = .ok (.iconst 2, 1) := by decide +kernel
theorem dL_law_924 : decode cL_law 924 = .ok (.iadd, 1) := by decide +kernel
theorem dL_law_925 : decode cL_law 925 = .ok (.iaload, 1) := by decide +kernel
theorem dL_law_926 : decode cL_law 926 = .ok (.invokevirtual 94, 3) := by decide +kernel
theorem dL_law_929 : decode cL_law 929 = .ok (.aload_n 2, 1) := by decide +kernel
theorem dL_law_930 : decode cL_law 930 = .ok (.aload_n 0, 1) := by decide +kernel
theorem dL_law_931 : decode cL_law 931 = .ok (.iload_n 3, 1) := by decide +kernel
theorem dL_law_932 : decode cL_law 932 = .ok (.iconst 1, 1) := by decide +kernel
theorem dL_law_933 : decode cL_law 933 = .ok (.iadd, 1) := by decide +kernel
theorem dL_law_934 : decode cL_law 934 = .ok (.iaload, 1) := by decide +kernel
theorem dL_law_935 : decode cL_law 935 = .ok (.aload_n 0, 1) := by decide +kernel
theorem dL_law_936 : decode cL_law 936 = .ok (.iload_n 3, 1) := by decide +kernel
theorem dL_law_937 : decode cL_law 937 = .ok (.iconst 2, 1) := by decide +kernel
theorem dL_law_938 : decode cL_law 938 = .ok (.iadd, 1) := by decide +kernel
theorem dL_law_939 : decode cL_law 939 = .ok (.iaload, 1) := by decide +kernel
theorem dL_law_940 : decode cL_law 940 = .ok (.invokevirtual 97, 3) := by decide +kernel
theorem dL_law_943 : decode cL_law 943 = .ok (.if_icmp .eq 1085, 3) := by decide +kernel
theorem dL_law_946 : decode cL_law 946 = .ok (.iconst 0, 1) := by decide +kernel
theorem dL_law_947 : decode cL_law 947 = .ok (.ireturn, 1) := by decide +kernel
theorem dL_law_948 : decode cL_law 948 = .ok (.aload_n 1, 1) := by decide +kernel
theorem dL_law_949 : decode cL_law 949 = .ok (.aload_n 0, 1) := by decide +kernel
theorem dL_law_950 : decode cL_law 950 = .ok (.iload_n 3, 1) := by decide +kernel
theorem dL_law_951 : decode cL_law 951 = .ok (.iconst 1, 1) := by decide +kernel
theorem dL_law_952 : decode cL_law 952 = .ok (.iadd, 1) := by decide +kernel
theorem dL_law_953 : decode cL_law 953 = .ok (.iaload, 1) := by decide +kernel
theorem dL_law_954 : decode cL_law 954 = .ok (.aload_n 0, 1) := by decide +kernel
theorem dL_law_955 : decode cL_law 955 = .ok (.iload_n 3, 1) := by decide +kernel
theorem dL_law_956 : decode cL_law 956 = .ok (.iconst 2, 1) := by decide +kernel
theorem dL_law_957 : decode cL_law 957 = .ok (.iadd, 1) := by decide +kernel
theorem dL_law_958 : decode cL_law 958 = .ok (.iaload, 1) := by decide +kernel
theorem dL_law_959 : decode cL_law 959 = .ok (.invokevirtual 98, 3) := by decide +kernel
theorem dL_law_962 : decode cL_law 962 = .ok (.aload_n 2, 1) := by decide +kernel
theorem dL_law_963 : decode cL_law 963 = .ok (.aload_n 0, 1) := by decide +kernel
theorem dL_law_964 : decode cL_law 964 = .ok (.iload_n 3, 1) := by decide +kernel
theorem dL_law_965 : decode cL_law 965 = .ok (.iconst 1, 1) := by decide +kernel
theorem dL_law_966 : decode cL_law 966 = .ok (.iadd, 1) := by decide +kernel
theorem dL_law_967 : decode cL_law 967 = .ok (.iaload, 1) := by decide +kernel
theorem dL_law_968 : decode cL_law 968 = .ok (.aload_n 0, 1) := by decide +kernel
theorem dL_law_969 : decode cL_law 969 = .ok (.iload_n 3, 1) := by decide +kernel
theorem dL_law_970 : decode cL_law 970 = .ok (.iconst 2, 1) := by decide +kernel
theorem dL_law_971 : decode cL_law 971 = .ok (.iadd, 1) := by decide +kernel
theorem dL_law_972 : decode cL_law 972 = .ok (.iaload, 1) := by decide +kernel
theorem dL_law_973 : decode cL_law 973 = .ok (.invokevirtual 101, 3) := by decide +kernel
theorem dL_law_976 : decode cL_law 976 = .ok (.if_icmp .eq 1052, 3) := by decide +kernel
theorem dL_law_979 : decode cL_law 979 = .ok (.iconst 0, 1) := by decide +kernel
theorem dL_law_980 : decode cL_law 980 = .ok (.ireturn, 1) := by decide +kernel
theorem dL_law_981 : decode cL_law 981 = .ok (.aload_n 1, 1) := by decide +kernel
theorem dL_law_982 : decode cL_law 982 = .ok (.aload_n 0, 1) := by decide +kernel
theorem dL_law_983 : decode cL_law 983 = .ok (.iload_n 3, 1) := by decide +kernel
theorem dL_law_984 : decode cL_law 984 = .ok (.iconst 1, 1) := by decide +kernel
theorem dL_law_985 : decode cL_law 985 = .ok (.iadd, 1) := by decide +kernel
theorem dL_law_986 : decode cL_law 986 = .ok (.iaload, 1) := by decide +kernel
theorem dL_law_987 : decode cL_law 987 = .ok (.invokevirtual 102, 3) := by decide +kernel
theorem dL_law_990 : decode cL_law 990 = .ok (.aload_n 2, 1) := by decide +kernel
theorem dL_law_991 : decode cL_law 991 = .ok (.aload_n 0, 1) := by decide +kernel
theorem dL_law_992 : decode cL_law 992 = .ok (.iload_n 3, 1) := by decide +kernel
theorem dL_law_993 : decode cL_law 993 = .ok (.iconst 1, 1) := by decide +kernel
theorem dL_law_994 : decode cL_law 994 = .ok (.iadd, 1) := by decide +kernel
theorem dL_law_995 : decode cL_law 995 = .ok (.iaload, 1) := by decide +kernel
theorem dL_law_996 : decode cL_law 996 = .ok (.invokevirtual 105, 3) := by decide +kernel
theorem dL_law_999 : decode cL_law 999 = .ok (.if_icmp .eq 1029, 3) := by decide +kernel
theorem dL_law_1002 : decode cL_law 1002 = .ok (.iconst 0, 1) := by decide +kernel
theorem dL_law_1003 : decode cL_law 1003 = .ok (.ireturn, 1) := by decide +kernel
theorem dL_law_1004 : decode cL_law 1004 = .ok (.aload_n 1, 1) := by decide +kernel
theorem dL_law_1005 : decode cL_law 1005 = .ok (.aload_n 0, 1) := by decide +kernel
theorem dL_law_1006 : decode cL_law 1006 = .ok (.iload_n 3, 1) := by decide +kernel
theorem dL_law_1007 : decode cL_law 1007 = .ok (.iconst 1, 1) := by decide +kernel
theorem dL_law_1008 : decode cL_law 1008 = .ok (.iadd, 1) := by decide +kernel
theorem dL_law_1009 : decode cL_law 1009 = .ok (.iaload, 1) := by decide +kernel
theorem dL_law_1010 : decode cL_law 1010 = .ok (.invokevirtual 106, 3) := by decide +kernel
theorem dL_law_1013 : decode cL_law 1013 = .ok (.aload_n 2, 1) := by decide +kernel
theorem dL_law_1014 : decode cL_law 1014 = .ok (.aload_n 0, 1) := by decide +kernel
theorem dL_law_1015 : decode cL_law 1015 = .ok (.iload_n 3, 1) := by decide +kernel
theorem dL_law_1016 : decode cL_law 1016 = .ok (.iconst 1, 1) := by decide +kernel
theorem dL_law_1017 : decode cL_law 1017 = .ok (.iadd, 1) := by decide +kernel
theorem dL_law_1018 : decode cL_law 1018 = .ok (.iaload, 1) := by decide +kernel
theorem dL_law_1019 : decode cL_law 1019 = .ok (.invokevirtual 109, 3) := by decide +kernel
theorem dL_law_1022 : decode cL_law 1022 = .ok (.if_icmp .eq 1006, 3) := by decide +kernel
theorem dL_law_1025 : decode cL_law 1025 = .ok (.iconst 0, 1) := by decide +kernel
theorem dL_law_1026 : decode cL_law 1026 = .ok (.ireturn, 1) := by decide +kernel
theorem dL_law_1027 : decode cL_law 1027 = .ok (.aload_n 1, 1) := by decide +kernel
theorem dL_law_1028 : decode cL_law 1028 = .ok (.aload_n 0, 1) := by decide +kernel
theorem dL_law_1029 : decode cL_law 1029 = .ok (.iload_n 3, 1) := by decide +kernel
theorem dL_law_1030 : decode cL_law 1030 = .ok (.iconst 1, 1) := by decide +kernel
theorem dL_law_1031 : decode cL_law 1031 = .ok (.iadd, 1) := by decide +kernel
theorem dL_law_1032 : decode cL_law 1032 = .ok (.iaload, 1) := by decide +kernel
theorem dL_law_1033 : decode cL_law 1033 = .ok (.invokevirtual 110, 3) := by decide +kernel
theorem dL_law_1036 : decode cL_law 1036 = .ok (.aload_n 2, 1) := by decide +kernel
theorem dL_law_1037 : decode cL_law 1037 = .ok (.aload_n 0, 1) := by decide +kernel
theorem dL_law_1038 : decode cL_law 1038 = .ok (.iload_n 3, 1) := by decide +kernel
theorem dL_law_1039 : decode cL_law 1039 = .ok (.iconst 1, 1) := by decide +kernel
theorem dL_law_1040 : decode cL_law 1040 = .ok (.iadd, 1) := by decide +kernel
theorem dL_law_1041 : decode cL_law 1041 = .ok (.iaload, 1) := by decide +kernel
theorem dL_law_1042 : decode cL_law 1042 = .ok (.invokevirtual 113, 3) := by decide +kernel
theorem dL_law_1045 : decode cL_law 1045 = .ok (.if_icmp .eq 983, 3) := by decide +kernel
theorem dL_law_1048 : decode cL_law 1048 = .ok (.iconst 0, 1) := by decide +kernel
theorem dL_law_1049 : decode cL_law 1049 = .ok (.ireturn, 1) := by decide +kernel
theorem dL_law_1050 : decode cL_law 1050 = .ok (.aload_n 1, 1) := by decide +kernel
theorem dL_law_1051 : decode cL_law 1051 = .ok (.aload_n 0, 1) := by decide +kernel
theorem dL_law_1052 : decode cL_law 1052 = .ok (.iload_n 3, 1) := by decide +kernel
theorem dL_law_1053 : decode cL_law 1053 = .ok (.iconst 1, 1) := by decide +kernel
theorem dL_law_1054 : decode cL_law 1054 = .ok (.iadd, 1) := by decide +kernel
theorem dL_law_1055 : decode cL_law 1055 = .ok (.iaload, 1) := by decide +kernel
theorem dL_law_1056 : decode cL_law 1056 = .ok (.aload_n 0, 1) := by decide +kernel
theorem dL_law_1057 : decode cL_law 1057 = .ok (.iload_n 3, 1) := by decide +kernel
theorem dL_law_1058 : decode cL_law 1058 = .ok (.iconst 2, 1) := by decide +kernel
theorem dL_law_1059 : decode cL_law 1059 = .ok (.iadd, 1) := by decide +kernel
theorem dL_law_1060 : decode cL_law 1060 = .ok (.iaload, 1) := by decide +kernel
theorem dL_law_1061 : decode cL_law 1061 = .ok (.aload_n 0, 1) := by decide +kernel
theorem dL_law_1062 : decode cL_law 1062 = .ok (.iload_n 3, 1) := by decide +kernel
theorem dL_law_1063 : decode cL_law 1063 = .ok (.iconst 3, 1) := by decide +kernel
theorem dL_law_1064 : decode cL_law 1064 = .ok (.iadd, 1) := by decide +kernel
theorem dL_law_1065 : decode cL_law 1065 = .ok (.iaload, 1) := by decide +kernel
theorem dL_law_1066 : decode cL_law 1066 = .ok (.aload_n 0, 1) := by decide +kernel
theorem dL_law_1067 : decode cL_law 1067 = .ok (.iload_n 3, 1) := by decide +kernel
theorem dL_law_1068 : decode cL_law 1068 = .ok (.iconst 4, 1) := by decide +kernel
theorem dL_law_1069 : decode cL_law 1069 = .ok (.iadd, 1) := by decide +kernel
theorem dL_law_1070 : decode cL_law 1070 = .ok (.iaload, 1) := by decide +kernel
theorem dL_law_1071 : decode cL_law 1071 = .ok (.invokevirtual 114, 3) := by decide +kernel
theorem dL_law_1074 : decode cL_law 1074 = .ok (.aload_n 2, 1) := by decide +kernel
theorem dL_law_1075 : decode cL_law 1075 = .ok (.aload_n 0, 1) := by decide +kernel
theorem dL_law_1076 : decode cL_law 1076 = .ok (.iload_n 3, 1) := by decide +kernel
theorem dL_law_1077 : decode cL_law 1077 = .ok (.iconst 1, 1) := by decide +kernel
theorem dL_law_1078 : decode cL_law 1078 = .ok (.iadd, 1) := by decide +kernel
theorem dL_law_1079 : decode cL_law 1079 = .ok (.iaload, 1) := by decide +kernel
theorem dL_law_1080 : decode cL_law 1080 = .ok (.aload_n 0, 1) := by decide +kernel
theorem dL_law_1081 : decode cL_law 1081 = .ok (.iload_n 3, 1) := by decide +kernel
theorem dL_law_1082 : decode cL_law 1082 = .ok (.iconst 2, 1) := by decide +kernel
theorem dL_law_1083 : decode cL_law 1083 = .ok (.iadd, 1) := by decide +kernel
theorem dL_law_1084 : decode cL_law 1084 = .ok (.iaload, 1) := by decide +kernel
theorem dL_law_1085 : decode cL_law 1085 = .ok (.aload_n 0, 1) := by decide +kernel
theorem dL_law_1086 : decode cL_law 1086 = .ok (.iload_n 3, 1) := by decide +kernel
theorem dL_law_1087 : decode cL_law 1087 = .ok (.iconst 3, 1) := by decide +kernel
theorem dL_law_1088 : decode cL_law 1088 = .ok (.iadd, 1) := by decide +kernel
theorem dL_law_1089 : decode cL_law 1089 = .ok (.iaload, 1) := by decide +kernel
theorem dL_law_1090 : decode cL_law 1090 = .ok (.aload_n 0, 1) := by decide +kernel
theorem dL_law_1091 : decode cL_law 1091 = .ok (.iload_n 3, 1) := by decide +kernel
theorem dL_law_1092 : decode cL_law 1092 = .ok (.iconst 4, 1) := by decide +kernel
theorem dL_law_1093 : decode cL_law 1093 = .ok (.iadd, 1) := by decide +kernel
theorem dL_law_1094 : decode cL_law 1094 = .ok (.iaload, 1) := by decide +kernel
theorem dL_law_1095 : decode cL_law 1095 = .ok (.invokevirtual 117, 3) := by decide +kernel
theorem dL_law_1098 : decode cL_law 1098 = .ok (.if_icmp .eq 930, 3) := by decide +kernel
theorem dL_law_1101 : decode cL_law 1101 = .ok (.iconst 0, 1) := by decide +kernel
theorem dL_law_1102 : decode cL_law 1102 = .ok (.ireturn, 1) := by decide +kernel
theorem dL_law_1103 : decode cL_law 1103 = .ok (.aload_n 1, 1) := by decide +kernel
theorem dL_law_1104 : decode cL_law 1104 = .ok (.aload_n 0, 1) := by decide +kernel
theorem dL_law_1105 : decode cL_law 1105 = .ok (.iload_n 3, 1) := by decide +kernel
theorem dL_law_1106 : decode cL_law 1106 = .ok (.iconst 1, 1) := by decide +kernel
theorem dL_law_1107 : decode cL_law 1107 = .ok (.iadd, 1) := by decide +kernel
theorem dL_law_1108 : decode cL_law 1108 = .ok (.iaload, 1) := by decide +kernel
theorem dL_law_1109 : decode cL_law 1109 = .ok (.invokevirtual 118, 3) := by decide +kernel
theorem dL_law_1112 : decode cL_law 1112 = .ok (.aload_n 2, 1) := by decide +kernel
theorem dL_law_1113 : decode cL_law 1113 = .ok (.aload_n 0, 1) := by decide +kernel
theorem dL_law_1114 : decode cL_law 1114 = .ok (.iload_n 3, 1) := by decide +kernel
theorem dL_law_1115 : decode cL_law 1115 = .ok (.iconst 1, 1) := by decide +kernel
theorem dL_law_1116 : decode cL_law 1116 = .ok (.iadd, 1) := by decide +kernel
theorem dL_law_1117 : decode cL_law 1117 = .ok (.iaload, 1) := by decide +kernel
theorem dL_law_1118 : decode cL_law 1118 = .ok (.invokevirtual 121, 3) := by decide +kernel
theorem dL_law_1121 : decode cL_law 1121 = .ok (.if_icmp .eq 907, 3) := by decide +kernel
theorem dL_law_1124 : decode cL_law 1124 = .ok (.iconst 0, 1) := by decide +kernel
theorem dL_law_1125 : decode cL_law 1125 = .ok (.ireturn, 1) := by decide +kernel
theorem dL_law_1126 : decode cL_law 1126 = .ok (.aload_n 1, 1) := by decide +kernel
theorem dL_law_1127 : decode cL_law 1127 = .ok (.aload_n 0, 1) := by decide +kernel
theorem dL_law_1128 : decode cL_law 1128 = .ok (.iload_n 3, 1) := by decide +kernel
theorem dL_law_1129 : decode cL_law 1129 = .ok (.iconst 1, 1) := by decide +kernel
theorem dL_law_1130 : decode cL_law 1130 = .ok (.iadd, 1) := by decide +kernel
theorem dL_law_1131 : decode cL_law 1131 = .ok (.iaload, 1) := by decide +kernel
theorem dL_law_1132 : decode cL_law 1132 = .ok (.invokevirtual 122, 3) := by decide +kernel
theorem dL_law_1135 : decode cL_law 1135 = .ok (.aload_n 2, 1) := by decide +kernel
theorem dL_law_1136 : decode cL_law 1136 = .ok (.aload_n 0, 1) := by decide +kernel
theorem dL_law_1137 : decode cL_law 1137 = .ok (.iload_n 3, 1) := by decide +kernel
theorem dL_law_1138 : decode cL_law 1138 = .ok (.iconst 1, 1) := by decide +kernel
theorem dL_law_1139 : decode cL_law 1139 = .ok (.iadd, 1) := by decide +kernel
theorem dL_law_1140 : decode cL_law 1140 = .ok (.iaload, 1) := by decide +kernel
theorem dL_law_1141 : decode cL_law 1141 = .ok (.invokevirtual 125, 3) := by decide +kernel
theorem dL_law_1144 : decode cL_law 1144 = .ok (.if_icmp .eq 884, 3) := by decide +kernel
theorem dL_law_1147 : decode cL_law 1147 = .ok (.iconst 0, 1) := by decide +kernel
theorem dL_law_1148 : decode cL_law 1148 = .ok (.ireturn, 1) := by decide +kernel
theorem dL_law_1149 : decode cL_law 1149 = .ok (.aload_n 1, 1) := by decide +kernel
theorem dL_law_1150 : decode cL_law 1150 = .ok (.aload_n 0, 1) := by decide +kernel
theorem dL_law_1151 : decode cL_law 1151 = .ok (.iload_n 3, 1) := by decide +kernel
theorem dL_law_1152 : decode cL_law 1152 = .ok (.iconst 1, 1) := by decide +kernel
theorem dL_law_1153 : decode cL_law 1153 = .ok (.iadd, 1) := by decide +kernel
theorem dL_law_1154 : decode cL_law 1154 = .ok (.iaload, 1) := by decide +kernel
theorem dL_law_1155 : decode cL_law 1155 = .ok (.invokevirtual 126, 3) := by decide +kernel
theorem dL_law_1158 : decode cL_law 1158 = .ok (.aload_n 2, 1) := by decide +kernel
theorem dL_law_1159 : decode cL_law 1159 = .ok (.aload_n 0, 1) := by decide +kernel
theorem dL_law_1160 : decode cL_law 1160 = .ok (.iload_n 3, 1) := by decide +kernel
theorem dL_law_1161 : decode cL_law 1161 = .ok (.iconst 1, 1) := by decide +kernel
theorem dL_law_1162 : decode cL_law 1162 = .ok (.iadd, 1) := by decide +kernel
theorem dL_law_1163 : decode cL_law 1163 = .ok (.iaload, 1) := by decide +kernel
theorem dL_law_1164 : decode cL_law 1164 = .ok (.invokevirtual 129, 3) := by decide +kernel
theorem dL_law_1167 : decode cL_law 1167 = .ok (.if_icmp .eq 861, 3) := by decide +kernel
theorem dL_law_1170 : decode cL_law 1170 = .ok (.iconst 0, 1) := by decide +kernel
theorem dL_law_1171 : decode cL_law 1171 = .ok (.ireturn, 1) := by decide +kernel
theorem dL_law_1172 : decode cL_law 1172 = .ok (.aload_n 1, 1) := by decide +kernel
theorem dL_law_1173 : decode cL_law 1173 = .ok (.invokevirtual 130, 3) := by decide +kernel
theorem dL_law_1176 : decode cL_law 1176 = .ok (.aload_n 2, 1) := by decide +kernel
theorem dL_law_1177 : decode cL_law 1177 = .ok (.invokevirtual 133, 3) := by decide +kernel
theorem dL_law_1180 : decode cL_law 1180 = .ok (.if_icmp .eq 848, 3) := by decide +kernel
theorem dL_law_1183 : decode cL_law 1183 = .ok (.iconst 0, 1) := by decide +kernel
theorem dL_law_1184 : decode cL_law 1184 = .ok (.ireturn, 1) := by decide +kernel
theorem dL_law_1185 : decode cL_law 1185 = .ok (.aload_n 1, 1) := by decide +kernel
theorem dL_law_1186 : decode cL_law 1186 = .ok (.invokevirtual 134, 3) := by decide +kernel
theorem dL_law_1189 : decode cL_law 1189 = .ok (.aload_n 2, 1) := by decide +kernel
theorem dL_law_1190 : decode cL_law 1190 = .ok (.invokevirtual 137, 3) := by decide +kernel
theorem dL_law_1193 : decode cL_law 1193 = .ok (.if_icmp .eq 835, 3) := by decide +kernel
theorem dL_law_1196 : decode cL_law 1196 = .ok (.iconst 0, 1) := by decide +kernel
theorem dL_law_1197 : decode cL_law 1197 = .ok (.ireturn, 1) := by decide +kernel
theorem dL_law_1198 : decode cL_law 1198 = .ok (.aload_n 1, 1) := by decide +kernel
theorem dL_law_1199 : decode cL_law 1199 = .ok (.aload_n 0, 1) := by decide +kernel
theorem dL_law_1200 : decode cL_law 1200 = .ok (.iload_n 3, 1) := by decide +kernel
theorem dL_law_1201 : decode cL_law 1201 = .ok (.iconst 1, 1) := by decide +kernel
theorem dL_law_1202 : decode cL_law 1202 = .ok (.iadd, 1) := by decide +kernel
theorem dL_law_1203 : decode cL_law 1203 = .ok (.iaload, 1) := by decide +kernel
theorem dL_law_1204 : decode cL_law 1204 = .ok (.invokevirtual 138, 3) := by decide +kernel
theorem dL_law_1207 : decode cL_law 1207 = .ok (.aload_n 2, 1) := by decide +kernel
theorem dL_law_1208 : decode cL_law 1208 = .ok (.aload_n 0, 1) := by decide +kernel
theorem dL_law_1209 : decode cL_law 1209 = .ok (.iload_n 3, 1) := by decide +kernel
theorem dL_law_1210 : decode cL_law 1210 = .ok (.iconst 1, 1) := by decide +kernel
theorem dL_law_1211 : decode cL_law 1211 = .ok (.iadd, 1) := by decide +kernel
theorem dL_law_1212 : decode cL_law 1212 = .ok (.iaload, 1) := by decide +kernel
theorem dL_law_1213 : decode cL_law 1213 = .ok (.invokevirtual 141, 3) := by decide +kernel
theorem dL_law_1216 : decode cL_law 1216 = .ok (.if_icmp .eq 812, 3) := by decide +kernel
theorem dL_law_1219 : decode cL_law 1219 = .ok (.iconst 0, 1) := by decide +kernel
theorem dL_law_1220 : decode cL_law 1220 = .ok (.ireturn, 1) := by decide +kernel
theorem dL_law_1221 : decode cL_law 1221 = .ok (.aload_n 1, 1) := by decide +kernel
theorem dL_law_1222 : decode cL_law 1222 = .ok (.aload_n 0, 1) := by decide +kernel
theorem dL_law_1223 : decode cL_law 1223 = .ok (.iload_n 3, 1) := by decide +kernel
theorem dL_law_1224 : decode cL_law 1224 = .ok (.iconst 1, 1) := by decide +kernel
theorem dL_law_1225 : decode cL_law 1225 = .ok (.iadd, 1) := by decide +kernel
theorem dL_law_1226 : decode cL_law 1226 = .ok (.iaload, 1) := by decide +kernel
theorem dL_law_1227 : decode cL_law 1227 = .ok (.invokevirtual 142, 3) := by decide +kernel
theorem dL_law_1230 : decode cL_law 1230 = .ok (.aload_n 2, 1) := by decide +kernel
theorem dL_law_1231 : decode cL_law 1231 = .ok (.aload_n 0, 1) := by decide +kernel
theorem dL_law_1232 : decode cL_law 1232 = .ok (.iload_n 3, 1) := by decide +kernel
theorem dL_law_1233 : decode cL_law 1233 = .ok (.iconst 1, 1) := by decide +kernel
theorem dL_law_1234 : decode cL_law 1234 = .ok (.iadd, 1) := by decide +kernel
theorem dL_law_1235 : decode cL_law 1235 = .ok (.iaload, 1) := by decide +kernel
theorem dL_law_1236 : decode cL_law 1236 = .ok (.invokevirtual 145, 3) := by decide +kernel
theorem dL_law_1239 : decode cL_law 1239 = .ok (.if_icmp .eq 789, 3) := by decide +kernel
theorem dL_law_1242 : decode cL_law 1242 = .ok (.iconst 0, 1) := by decide +kernel
theorem dL_law_1243 : decode cL_law 1243 = .ok (.ireturn, 1) := by decide +kernel
theorem dL_law_1244 : decode cL_law 1244 = .ok (.aload_n 1, 1) := by decide +kernel
theorem dL_law_1245 : decode cL_law 1245 = .ok (.aload_n 0, 1) := by decide +kernel
theorem dL_law_1246 : decode cL_law 1246 = .ok (.iload_n 3, 1) := by decide +kernel
theorem dL_law_1247 : decode cL_law 1247 = .ok (.iconst 1, 1) := by decide +kernel
theorem dL_law_1248 : decode cL_law 1248 = .ok (.iadd, 1) := by decide +kernel
theorem dL_law_1249 : decode cL_law 1249 = .ok (.iaload, 1) := by decide +kernel
theorem dL_law_1250 : decode cL_law 1250 = .ok (.aload_n 0, 1) := by decide +kernel
theorem dL_law_1251 : decode cL_law 1251 = .ok (.iload_n 3, 1) := by decide +kernel
theorem dL_law_1252 : decode cL_law 1252 = .ok (.iconst 2, 1) := by decide +kernel
theorem dL_law_1253 : decode cL_law 1253 = .ok (.iadd, 1) := by decide +kernel
theorem dL_law_1254 : decode cL_law 1254 = .ok (.iaload, 1) := by decide +kernel
theorem dL_law_1255 : decode cL_law 1255 = .ok (.invokevirtual 146, 3) := by decide +kernel
theorem dL_law_1258 : decode cL_law 1258 = .ok (.aload_n 2, 1) := by decide +kernel
theorem dL_law_1259 : decode cL_law 1259 = .ok (.aload_n 0, 1) := by decide +kernel
theorem dL_law_1260 : decode cL_law 1260 = .ok (.iload_n 3, 1) := by decide +kernel
theorem dL_law_1261 : decode cL_law 1261 = .ok (.iconst 1, 1) := by decide +kernel
theorem dL_law_1262 : decode cL_law 1262 = .ok (.iadd, 1) := by decide +kernel
theorem dL_law_1263 : decode cL_law 1263 = .ok (.iaload, 1) := by decide +kernel
theorem dL_law_1264 : decode cL_law 1264 = .ok (.aload_n 0, 1) := by decide +kernel
theorem dL_law_1265 : decode cL_law 1265 = .ok (.iload_n 3, 1) := by decide +kernel
theorem dL_law_1266 : decode cL_law 1266 = .ok (.iconst 2, 1) := by decide +kernel
theorem dL_law_1267 : decode cL_law 1267 = .ok (.iadd, 1) := by decide +kernel
theorem dL_law_1268 : decode cL_law 1268 = .ok (.iaload, 1) := by decide +kernel
theorem dL_law_1269 : decode cL_law 1269 = .ok (.invokevirtual 149, 3) := by decide +kernel
theorem dL_law_1272 : decode cL_law 1272 = .ok (.if_icmp .eq 756, 3) := by decide +kernel
theorem dL_law_1275 : decode cL_law 1275 = .ok (.iconst 0, 1) := by decide +kernel
theorem dL_law_1276 : decode cL_law 1276 = .ok (.ireturn, 1) := by decide +kernel
theorem dL_law_1277 : decode cL_law 1277 = .ok (.aload_n 1, 1) := by decide +kernel
theorem dL_law_1278 : decode cL_law 1278 = .ok (.aload_n 0, 1) := by decide +kernel
theorem dL_law_1279 : decode cL_law 1279 = .ok (.iload_n 3, 1) := by decide +kernel
theorem dL_law_1280 : decode cL_law 1280 = .ok (.iconst 1, 1) := by decide +kernel
theorem dL_law_1281 : decode cL_law 1281 = .ok (.iadd, 1) := by decide +kernel
theorem dL_law_1282 : decode cL_law 1282 = .ok (.iaload, 1) := by decide +kernel
theorem dL_law_1283 : decode cL_law 1283 = .ok (.invokevirtual 150, 3) := by decide +kernel
theorem dL_law_1286 : decode cL_law 1286 = .ok (.aload_n 2, 1) := by decide +kernel
theorem dL_law_1287 : decode cL_law 1287 = .ok (.aload_n 0, 1) := by decide +kernel
theorem dL_law_1288 : decode cL_law 1288 = .ok (.iload_n 3, 1) := by decide +kernel
theorem dL_law_1289 : decode cL_law 1289 = .ok (.iconst 1, 1) := by decide +kernel
theorem dL_law_1290 : decode cL_law 1290 = .ok (.iadd, 1) := by decide +kernel
theorem dL_law_1291 : decode cL_law 1291 = .ok (.iaload, 1) := by decide +kernel
theorem dL_law_1292 : decode cL_law 1292 = .ok (.invokevirtual 153, 3) := by decide +kernel
theorem dL_law_1295 : decode cL_law 1295 = .ok (.if_icmp .eq 733, 3) := by decide +kernel
theorem dL_law_1298 : decode cL_law 1298 = .ok (.iconst 0, 1) := by decide +kernel
theorem dL_law_1299 : decode cL_law 1299 = .ok (.ireturn, 1) := by decide +kernel
theorem dL_law_1300 : decode cL_law 1300 = .ok (.aload_n 1, 1) := by decide +kernel
theorem dL_law_1301 : decode cL_law 1301 = .ok (.aload_n 0, 1) := by decide +kernel
theorem dL_law_1302 : decode cL_law 1302 = .ok (.iload_n 3, 1) := by decide +kernel
theorem dL_law_1303 : decode cL_law 1303 = .ok (.iconst 1, 1) := by decide +kernel
theorem dL_law_1304 : decode cL_law 1304 = .ok (.iadd, 1) := by decide +kernel
theorem dL_law_1305 : decode cL_law 1305 = .ok (.iaload, 1) := by decide +kernel
theorem dL_law_1306 : decode cL_law 1306 = .ok (.aload_n 0, 1) := by decide +kernel
theorem dL_law_1307 : decode cL_law 1307 = .ok (.iload_n 3, 1) := by decide +kernel
theorem dL_law_1308 : decode cL_law 1308 = .ok (.iconst 2, 1) := by decide +kernel
theorem dL_law_1309 : decode cL_law 1309 = .ok (.iadd, 1) := by decide +kernel
theorem dL_law_1310 : decode cL_law 1310 = .ok (.iaload, 1) := by decide +kernel
theorem dL_law_1311 : decode cL_law 1311 = .ok (.invokevirtual 154, 3) := by decide +kernel
theorem dL_law_1314 : decode cL_law 1314 = .ok (.aload_n 2, 1) := by decide +kernel
theorem dL_law_1315 : decode cL_law 1315 = .ok (.aload_n 0, 1) := by decide +kernel
theorem dL_law_1316 : decode cL_law 1316 = .ok (.iload_n 3, 1) := by decide +kernel
theorem dL_law_1317 : decode cL_law 1317 = .ok (.iconst 1, 1) := by decide +kernel
theorem dL_law_1318 : decode cL_law 1318 = .ok (.iadd, 1) := by decide +kernel
theorem dL_law_1319 : decode cL_law 1319 = .ok (.iaload, 1) := by decide +kernel
theorem dL_law_1320 : decode cL_law 1320 = .ok (.aload_n 0, 1) := by decide +kernel
theorem dL_law_1321 : decode cL_law 1321 = .ok (.iload_n 3, 1) := by decide +kernel
theorem dL_law_1322 : decode cL_law 1322 = .ok (.iconst 2, 1) := by decide +kernel
theorem dL_law_1323 : decode cL_law 1323 = .ok (.iadd, 1) := by decide +kernel
theorem dL_law_1324 : decode cL_law 1324 = .ok (.iaload, 1) := by decide +kernel
theorem dL_law_1325 : decode cL_law 1325 = .ok (.invokevirtual 157, 3) := by decide +kernel
theorem dL_law_1328 : decode cL_law 1328 = .ok (.if_icmp .eq 700, 3) := by decide +kernel
theorem dL_law_1331 : decode cL_law 1331 = .ok (.iconst 0, 1) := by decide +kernel
theorem dL_law_1332 : decode cL_law 1332 = .ok (.ireturn, 1) := by decide +kernel
theorem dL_law_1333 : decode cL_law 1333 = .ok (.aload_n 1, 1) := by decide +kernel
theorem dL_law_1334 : decode cL_law 1334 = .ok (.aload_n 0, 1) := by decide +kernel
theorem dL_law_1335 : decode cL_law 1335 = .ok (.iload_n 3, 1) := by decide +kernel
theorem dL_law_1336 : decode cL_law 1336 = .ok (.iconst 1, 1) := by decide +kernel
theorem dL_law_1337 : decode cL_law 1337 = .ok (.iadd, 1) := by decide +kernel
theorem dL_law_1338 : decode cL_law 1338 = .ok (.iaload, 1) := by decide +kernel
theorem dL_law_1339 : decode cL_law 1339 = .ok (.aload_n 0, 1) := by decide +kernel
theorem dL_law_1340 : decode cL_law 1340 = .ok (.iload_n 3, 1) := by decide +kernel
theorem dL_law_1341 : decode cL_law 1341 = .ok (.iconst 2, 1) := by decide +kernel
theorem dL_law_1342 : decode cL_law 1342 = .ok (.iadd, 1) := by decide +kernel
theorem dL_law_1343 : decode cL_law 1343 = .ok (.iaload, 1) := by decide +kernel
theorem dL_law_1344 : decode cL_law 1344 = .ok (.invokevirtual 158, 3) := by decide +kernel
theorem dL_law_1347 : decode cL_law 1347 = .ok (.aload_n 2, 1) := by decide +kernel
theorem dL_law_1348 : decode cL_law 1348 = .ok (.aload_n 0, 1) := by decide +kernel
theorem dL_law_1349 : decode cL_law 1349 = .ok (.iload_n 3, 1) := by decide +kernel
theorem dL_law_1350 : decode cL_law 1350 = .ok (.iconst 1, 1) := by decide +kernel
theorem dL_law_1351 : decode cL_law 1351 = .ok (.iadd, 1) := by decide +kernel
theorem dL_law_1352 : decode cL_law 1352 = .ok (.iaload, 1) := by decide +kernel
theorem dL_law_1353 : decode cL_law 1353 = .ok (.aload_n 0, 1) := by decide +kernel
theorem dL_law_1354 : decode cL_law 1354 = .ok (.iload_n 3, 1) := by decide +kernel
theorem dL_law_1355 : decode cL_law 1355 = .ok (.iconst 2, 1) := by decide +kernel
theorem dL_law_1356 : decode cL_law 1356 = .ok (.iadd, 1) := by decide +kernel
theorem dL_law_1357 : decode cL_law 1357 = .ok (.iaload, 1) := by decide +kernel
theorem dL_law_1358 : decode cL_law 1358 = .ok (.invokevirtual 161, 3) := by decide +kernel
theorem dL_law_1361 : decode cL_law 1361 = .ok (.if_icmp .eq 667, 3) := by decide +kernel
theorem dL_law_1364 : decode cL_law 1364 = .ok (.iconst 0, 1) := by decide +kernel
theorem dL_law_1365 : decode cL_law 1365 = .ok (.ireturn, 1) := by decide +kernel
theorem dL_law_1366 : decode cL_law 1366 = .ok (.aload_n 1, 1) := by decide +kernel
theorem dL_law_1367 : decode cL_law 1367 = .ok (.aload_n 0, 1) := by decide +kernel
theorem dL_law_1368 : decode cL_law 1368 = .ok (.iload_n 3, 1) := by decide +kernel
theorem dL_law_1369 : decode cL_law 1369 = .ok (.iconst 1, 1) := by decide +kernel
theorem dL_law_1370 : decode cL_law 1370 = .ok (.iadd, 1) := by decide +kernel
theorem dL_law_1371 : decode cL_law 1371 = .ok (.iaload, 1) := by decide +kernel
theorem dL_law_1372 : decode cL_law 1372 = .ok (.aload_n 0, 1) := by decide +kernel
theorem dL_law_1373 : decode cL_law 1373 = .ok (.iload_n 3, 1) := by decide +kernel
theorem dL_law_1374 : decode cL_law 1374 = .ok (.iconst 2, 1) := by decide +kernel
theorem dL_law_1375 : decode cL_law 1375 = .ok (.iadd, 1) := by decide +kernel
theorem dL_law_1376 : decode cL_law 1376 = .ok (.iaload, 1) := by decide +kernel
theorem dL_law_1377 : decode cL_law 1377 = .ok (.invokevirtual 162, 3) := by decide +kernel
theorem dL_law_1380 : decode cL_law 1380 = .ok (.aload_n 2, 1) := by decide +kernel
theorem dL_law_1381 : decode cL_law 1381 = .ok (.aload_n 0, 1) := by decide +kernel
theorem dL_law_1382 : decode cL_law 1382 = .ok (.iload_n 3, 1) := by decide +kernel
theorem dL_law_1383 : decode cL_law 1383 = .ok (.iconst 1, 1) := by decide +kernel
theorem dL_law_1384 : decode cL_law 1384 = .ok (.iadd, 1) := by decide +kernel
theorem dL_law_1385 : decode cL_law 1385 = .ok (.iaload, 1) := by decide +kernel
theorem dL_law_1386 : decode cL_law 1386 = .ok (.aload_n 0, 1) := by decide +kernel
theorem dL_law_1387 : decode cL_law 1387 = .ok (.iload_n 3, 1) := by decide +kernel
theorem dL_law_1388 : decode cL_law 1388 = .ok (.iconst 2, 1) := by decide +kernel
theorem dL_law_1389 : decode cL_law 1389 = .ok (.iadd, 1) := by decide +kernel
theorem dL_law_1390 : decode cL_law 1390 = .ok (.iaload, 1) := by decide +kernel
theorem dL_law_1391 : decode cL_law 1391 = .ok (.invokevirtual 165, 3) := by decide +kernel
theorem dL_law_1394 : decode cL_law 1394 = .ok (.if_icmp .eq 634, 3) := by decide +kernel
theorem dL_law_1397 : decode cL_law 1397 = .ok (.iconst 0, 1) := by decide +kernel
theorem dL_law_1398 : decode cL_law 1398 = .ok (.ireturn, 1) := by decide +kernel
theorem dL_law_1399 : decode cL_law 1399 = .ok (.aload_n 1, 1) := by decide +kernel
theorem dL_law_1400 : decode cL_law 1400 = .ok (.aload_n 0, 1) := by decide +kernel
theorem dL_law_1401 : decode cL_law 1401 = .ok (.iload_n 3, 1) := by decide +kernel
theorem dL_law_1402 : decode cL_law 1402 = .ok (.iconst 1, 1) := by decide +kernel
theorem dL_law_1403 : decode cL_law 1403 = .ok (.iadd, 1) := by decide +kernel
theorem dL_law_1404 : decode cL_law 1404 = .ok (.iaload, 1) := by decide +kernel
theorem dL_law_1405 : decode cL_law 1405 = .ok (.aload_n 0, 1) := by decide +kernel
theorem dL_law_1406 : decode cL_law 1406 = .ok (.iload_n 3, 1) := by decide +kernel
theorem dL_law_1407 : decode cL_law 1407 = .ok (.iconst 2, 1) := by decide +kernel
theorem dL_law_1408 : decode cL_law 1408 = .ok (.iadd, 1) := by decide +kernel
theorem dL_law_1409 : decode cL_law 1409 = .ok (.iaload, 1) := by decide +kernel
theorem dL_law_1410 : decode cL_law 1410 = .ok (.invokevirtual 166, 3) := by decide +kernel
theorem dL_law_1413 : decode cL_law 1413 = .ok (.aload_n 2, 1) := by decide +kernel
theorem dL_law_1414 : decode cL_law 1414 = .ok (.aload_n 0, 1) := by decide +kernel
theorem dL_law_1415 : decode cL_law 1415 = .ok (.iload_n 3, 1) := by decide +kernel
theorem dL_law_1416 : decode cL_law 1416 = .ok (.iconst 1, 1) := by decide +kernel
theorem dL_law_1417 : decode cL_law 1417 = .ok (.iadd, 1) := by decide +kernel
theorem dL_law_1418 : decode cL_law 1418 = .ok (.iaload, 1) := by decide +kernel
theorem dL_law_1419 : decode cL_law 1419 = .ok (.aload_n 0, 1) := by decide +kernel
theorem dL_law_1420 : decode cL_law 1420 = .ok (.iload_n 3, 1) := by decide +kernel
theorem dL_law_1421 : decode cL_law 1421 = .ok (.iconst 2, 1) := by decide +kernel
theorem dL_law_1422 : decode cL_law 1422 = .ok (.iadd, 1) := by decide +kernel
theorem dL_law_1423 : decode cL_law 1423 = .ok (.iaload, 1) := by decide +kernel
theorem dL_law_1424 : decode cL_law 1424 = .ok (.invokevirtual 169, 3) := by decide +kernel
theorem dL_law_1427 : decode cL_law 1427 = .ok (.if_icmp .eq 601, 3) := by decide +kernel
theorem dL_law_1430 : decode cL_law 1430 = .ok (.iconst 0, 1) := by decide +kernel
theorem dL_law_1431 : decode cL_law 1431 = .ok (.ireturn, 1) := by decide +kernel
theorem dL_law_1432 : decode cL_law 1432 = .ok (.aload_n 1, 1) := by decide +kernel
theorem dL_law_1433 : decode cL_law 1433 = .ok (.aload_n 0, 1) := by decide +kernel
theorem dL_law_1434 : decode cL_law 1434 = .ok (.iload_n 3, 1) := by decide +kernel
theorem dL_law_1435 : decode cL_law 1435 = .ok (.iconst 1, 1) := by decide +kernel
theorem dL_law_1436 : decode cL_law 1436 = .ok (.iadd, 1) := by decide +kernel
theorem dL_law_1437 : decode cL_law 1437 = .ok (.iaload, 1) := by decide +kernel
theorem dL_law_1438 : decode cL_law 1438 = .ok (.aload_n 0, 1) := by decide +kernel
theorem dL_law_1439 : decode cL_law 1439 = .ok (.iload_n 3, 1) := by decide +kernel
theorem dL_law_1440 : decode cL_law 1440 = .ok (.iconst 2, 1) := by decide +kernel
theorem dL_law_1441 : decode cL_law 1441 = .ok (.iadd, 1) := by decide +kernel
theorem dL_law_1442 : decode cL_law 1442 = .ok (.iaload, 1) := by decide +kernel
theorem dL_law_1443 : decode cL_law 1443 = .ok (.invokevirtual 170, 3) := by decide +kernel
theorem dL_law_1446 : decode cL_law 1446 = .ok (.aload_n 2, 1) := by decide +kernel
theorem dL_law_1447 : decode cL_law 1447 = .ok (.aload_n 0, 1) := by decide +kernel
theorem dL_law_1448 : decode cL_law 1448 = .ok (.iload_n 3, 1) := by decide +kernel
theorem dL_law_1449 : decode cL_law 1449 = .ok (.iconst 1, 1) := by decide +kernel
theorem dL_law_1450 : decode cL_law 1450 = .ok (.iadd, 1) := by decide +kernel
theorem dL_law_1451 : decode cL_law 1451 = .ok (.iaload, 1) := by decide +kernel
theorem dL_law_1452 : decode cL_law 1452 = .ok (.aload_n 0, 1) := by decide +kernel
theorem dL_law_1453 : decode cL_law 1453 = .ok (.iload_n 3, 1) := by decide +kernel
theorem dL_law_1454 : decode cL_law 1454 = .ok (.iconst 2, 1) := by decide +kernel
theorem dL_law_1455 : decode cL_law 1455 = .ok (.iadd, 1) := by decide +kernel
theorem dL_law_1456 : decode cL_law 1456 = .ok (.iaload, 1) := by decide +kernel
theorem dL_law_1457 : decode cL_law 1457 = .ok (.invokevirtual 173, 3) := by decide +kernel
theorem dL_law_1460 : decode cL_law 1460 = .ok (.if_icmp .eq 568, 3) := by decide +kernel
theorem dL_law_1463 : decode cL_law 1463 = .ok (.iconst 0, 1) := by decide +kernel
theorem dL_law_1464 : decode cL_law 1464 = .ok (.ireturn, 1) := by decide +kernel
theorem dL_law_1465 : decode cL_law 1465 = .ok (.aload_n 1, 1) := by decide +kernel
theorem dL_law_1466 : decode cL_law 1466 = .ok (.invokevirtual 174, 3) := by decide +kernel
theorem dL_law_1469 : decode cL_law 1469 = .ok (.aload_n 2, 1) := by decide +kernel
theorem dL_law_1470 : decode cL_law 1470 = .ok (.invokevirtual 177, 3) := by decide +kernel
theorem dL_law_1473 : decode cL_law 1473 = .ok (.if_icmp .eq 555, 3) := by decide +kernel
theorem dL_law_1476 : decode cL_law 1476 = .ok (.iconst 0, 1) := by decide +kernel
theorem dL_law_1477 : decode cL_law 1477 = .ok (.ireturn, 1) := by decide +kernel
theorem dL_law_1478 : decode cL_law 1478 = .ok (.aload_n 1, 1) := by decide +kernel
theorem dL_law_1479 : decode cL_law 1479 = .ok (.invokevirtual 178, 3) := by decide +kernel
theorem dL_law_1482 : decode cL_law 1482 = .ok (.aload_n 2, 1) := by decide +kernel
theorem dL_law_1483 : decode cL_law 1483 = .ok (.invokevirtual 181, 3) := by decide +kernel
theorem dL_law_1486 : decode cL_law 1486 = .ok (.if_icmp .eq 542, 3) := by decide +kernel
theorem dL_law_1489 : decode cL_law 1489 = .ok (.iconst 0, 1) := by decide +kernel
theorem dL_law_1490 : decode cL_law 1490 = .ok (.ireturn, 1) := by decide +kernel
theorem dL_law_1491 : decode cL_law 1491 = .ok (.aload_n 1, 1) := by decide +kernel
theorem dL_law_1492 : decode cL_law 1492 = .ok (.aload_n 0, 1) := by decide +kernel
theorem dL_law_1493 : decode cL_law 1493 = .ok (.iload_n 3, 1) := by decide +kernel
theorem dL_law_1494 : decode cL_law 1494 = .ok (.iconst 1, 1) := by decide +kernel
theorem dL_law_1495 : decode cL_law 1495 = .ok (.iadd, 1) := by decide +kernel
theorem dL_law_1496 : decode cL_law 1496 = .ok (.iaload, 1) := by decide +kernel
theorem dL_law_1497 : decode cL_law 1497 = .ok (.aload_n 0, 1) := by decide +kernel
theorem dL_law_1498 : decode cL_law 1498 = .ok (.iload_n 3, 1) := by decide +kernel
theorem dL_law_1499 : decode cL_law 1499 = .ok (.iconst 2, 1) := by decide +kernel
theorem dL_law_1500 : decode cL_law 1500 = .ok (.iadd, 1) := by decide +kernel
theorem dL_law_1501 : decode cL_law 1501 = .ok (.iaload, 1) := by decide +kernel
theorem dL_law_1502 : decode cL_law 1502 = .ok (.invokevirtual 182, 3) := by decide +kernel
theorem dL_law_1505 : decode cL_law 1505 = .ok (.aload_n 2, 1) := by decide +kernel
theorem dL_law_1506 : decode cL_law 1506 = .ok (.aload_n 0, 1) := by decide +kernel
theorem dL_law_1507 : decode cL_law 1507 = .ok (.iload_n 3, 1) := by decide +kernel
theorem dL_law_1508 : decode cL_law 1508 = .ok (.iconst 1, 1) := by decide +kernel
theorem dL_law_1509 : decode cL_law 1509 = .ok (.iadd, 1) := by decide +kernel
theorem dL_law_1510 : decode cL_law 1510 = .ok (.iaload, 1) := by decide +kernel
theorem dL_law_1511 : decode cL_law 1511 = .ok (.aload_n 0, 1) := by decide +kernel
theorem dL_law_1512 : decode cL_law 1512 = .ok (.iload_n 3, 1) := by decide +kernel
theorem dL_law_1513 : decode cL_law 1513 = .ok (.iconst 2, 1) := by decide +kernel
theorem dL_law_1514 : decode cL_law 1514 = .ok (.iadd, 1) := by decide +kernel
theorem dL_law_1515 : decode cL_law 1515 = .ok (.iaload, 1) := by decide +kernel
theorem dL_law_1516 : decode cL_law 1516 = .ok (.invokevirtual 185, 3) := by decide +kernel
theorem dL_law_1519 : decode cL_law 1519 = .ok (.if_icmp .eq 509, 3) := by decide +kernel
theorem dL_law_1522 : decode cL_law 1522 = .ok (.iconst 0, 1) := by decide +kernel
theorem dL_law_1523 : decode cL_law 1523 = .ok (.ireturn, 1) := by decide +kernel
theorem dL_law_1524 : decode cL_law 1524 = .ok (.aload_n 1, 1) := by decide +kernel
theorem dL_law_1525 : decode cL_law 1525 = .ok (.aload_n 0, 1) := by decide +kernel
theorem dL_law_1526 : decode cL_law 1526 = .ok (.iload_n 3, 1) := by decide +kernel
theorem dL_law_1527 : decode cL_law 1527 = .ok (.iconst 1, 1) := by decide +kernel
theorem dL_law_1528 : decode cL_law 1528 = .ok (.iadd, 1) := by decide +kernel
theorem dL_law_1529 : decode cL_law 1529 = .ok (.iaload, 1) := by decide +kernel
theorem dL_law_1530 : decode cL_law 1530 = .ok (.aload_n 0, 1) := by decide +kernel
theorem dL_law_1531 : decode cL_law 1531 = .ok (.iload_n 3, 1) := by decide +kernel
theorem dL_law_1532 : decode cL_law 1532 = .ok (.iconst 2, 1) := by decide +kernel
theorem dL_law_1533 : decode cL_law 1533 = .ok (.iadd, 1) := by decide +kernel
theorem dL_law_1534 : decode cL_law 1534 = .ok (.iaload, 1) := by decide +kernel
theorem dL_law_1535 : decode cL_law 1535 = .ok (.invokevirtual 186, 3) := by decide +kernel
theorem dL_law_1538 : decode cL_law 1538 = .ok (.aload_n 2, 1) := by decide +kernel
theorem dL_law_1539 : decode cL_law 1539 = .ok (.aload_n 0, 1) := by decide +kernel
theorem dL_law_1540 : decode cL_law 1540 = .ok (.iload_n 3, 1) := by decide +kernel
theorem dL_law_1541 : decode cL_law 1541 = .ok (.iconst 1, 1) := by decide +kernel
theorem dL_law_1542 : decode cL_law 1542 = .ok (.iadd, 1) := by decide +kernel
theorem dL_law_1543 : decode cL_law 1543 = .ok (.iaload, 1) := by decide +kernel
theorem dL_law_1544 : decode cL_law 1544 = .ok (.aload_n 0, 1) := by decide +kernel
theorem dL_law_1545 : decode cL_law 1545 = .ok (.iload_n 3, 1) := by decide +kernel
theorem dL_law_1546 : decode cL_law 1546 = .ok (.iconst 2, 1) := by decide +kernel
theorem dL_law_1547 : decode cL_law 1547 = .ok (.iadd, 1) := by decide +kernel
theorem dL_law_1548 : decode cL_law 1548 = .ok (.iaload, 1) := by decide +kernel
theorem dL_law_1549 : decode cL_law 1549 = .ok (.invokevirtual 189, 3) := by decide +kernel
theorem dL_law_1552 : decode cL_law 1552 = .ok (.if_icmp .eq 476, 3) := by decide +kernel
theorem dL_law_1555 : decode cL_law 1555 = .ok (.iconst 0, 1) := by decide +kernel
theorem dL_law_1556 : decode cL_law 1556 = .ok (.ireturn, 1) := by decide +kernel
theorem dL_law_1557 : decode cL_law 1557 = .ok (.aload_n 1, 1) := by decide +kernel
theorem dL_law_1558 : decode cL_law 1558 = .ok (.aload_n 0, 1) := by decide +kernel
theorem dL_law_1559 : decode cL_law 1559 = .ok (.iload_n 3, 1) := by decide +kernel
theorem dL_law_1560 : decode cL_law 1560 = .ok (.iconst 1, 1) := by decide +kernel
theorem dL_law_1561 : decode cL_law 1561 = .ok (.iadd, 1) := by decide +kernel
theorem dL_law_1562 : decode cL_law 1562 = .ok (.iaload, 1) := by decide +kernel
theorem dL_law_1563 : decode cL_law 1563 = .ok (.aload_n 0, 1) := by decide +kernel
theorem dL_law_1564 : decode cL_law 1564 = .ok (.iload_n 3, 1) := by decide +kernel
theorem dL_law_1565 : decode cL_law 1565 = .ok (.iconst 2, 1) := by decide +kernel
theorem dL_law_1566 : decode cL_law 1566 = .ok (.iadd, 1) := by decide +kernel
theorem dL_law_1567 : decode cL_law 1567 = .ok (.iaload, 1) := by decide +kernel
theorem dL_law_1568 : decode cL_law 1568 = .ok (.invokevirtual 190, 3) := by decide +kernel
theorem dL_law_1571 : decode cL_law 1571 = .ok (.aload_n 2, 1) := by decide +kernel
theorem dL_law_1572 : decode cL_law 1572 = .ok (.aload_n 0, 1) := by decide +kernel
theorem dL_law_1573 : decode cL_law 1573 = .ok (.iload_n 3, 1) := by decide +kernel
theorem dL_law_1574 : decode cL_law 1574 = .ok (.iconst 1, 1) := by decide +kernel
theorem dL_law_1575 : decode cL_law 1575 = .ok (.iadd, 1) := by decide +kernel
theorem dL_law_1576 : decode cL_law 1576 = .ok (.iaload, 1) := by decide +kernel
theorem dL_law_1577 : decode cL_law 1577 = .ok (.aload_n 0, 1) := by decide +kernel
theorem dL_law_1578 : decode cL_law 1578 = .ok (.iload_n 3, 1) := by decide +kernel
theorem dL_law_1579 : decode cL_law 1579 = .ok (.iconst 2, 1) := by decide +kernel
theorem dL_law_1580 : decode cL_law 1580 = .ok (.iadd, 1) := by decide +kernel
theorem dL_law_1581 : decode cL_law 1581 = .ok (.iaload, 1) := by decide +kernel
theorem dL_law_1582 : decode cL_law 1582 = .ok (.invokevirtual 193, 3) := by decide +kernel
theorem dL_law_1585 : decode cL_law 1585 = .ok (.if_icmp .eq 443, 3) := by decide +kernel
theorem dL_law_1588 : decode cL_law 1588 = .ok (.iconst 0, 1) := by decide +kernel
theorem dL_law_1589 : decode cL_law 1589 = .ok (.ireturn, 1) := by decide +kernel
theorem dL_law_1590 : decode cL_law 1590 = .ok (.aload_n 1, 1) := by decide +kernel
theorem dL_law_1591 : decode cL_law 1591 = .ok (.aload_n 0, 1) := by decide +kernel
theorem dL_law_1592 : decode cL_law 1592 = .ok (.iload_n 3, 1) := by decide +kernel
theorem dL_law_1593 : decode cL_law 1593 = .ok (.iconst 1, 1) := by decide +kernel
theorem dL_law_1594 : decode cL_law 1594 = .ok (.iadd, 1) := by decide +kernel
theorem dL_law_1595 : decode cL_law 1595 = .ok (.iaload, 1) := by decide +kernel
theorem dL_law_1596 : decode cL_law 1596 = .ok (.aload_n 0, 1) := by decide +kernel
theorem dL_law_1597 : decode cL_law 1597 = .ok (.iload_n 3, 1) := by decide +kernel
theorem dL_law_1598 : decode cL_law 1598 = .ok (.iconst 2, 1) := by decide +kernel
theorem dL_law_1599 : decode cL_law 1599 = .ok (.iadd, 1) := by decide +kernel
theorem dL_law_1600 : decode cL_law 1600 = .ok (.iaload, 1) := by decide +kernel
theorem dL_law_1601 : decode cL_law 1601 = .ok (.aload_n 0, 1) := by decide +kernel
theorem dL_law_1602 : decode cL_law 1602 = .ok (.iload_n 3, 1) := by decide +kernel
theorem dL_law_1603 : decode cL_law 1603 = .ok (.iconst 3, 1) := by decide +kernel
theorem dL_law_1604 : decode cL_law 1604 = .ok (.iadd, 1) := by decide +kernel
theorem dL_law_1605 : decode cL_law 1605 = .ok (.iaload, 1) := by decide +kernel
theorem dL_law_1606 : decode cL_law 1606 = .ok (.invokevirtual 194, 3) := by decide +kernel
theorem dL_law_1609 : decode cL_law 1609 = .ok (.aload_n 2, 1) := by decide +kernel
theorem dL_law_1610 : decode cL_law 1610 = .ok (.aload_n 0, 1) := by decide +kernel
theorem dL_law_1611 : decode cL_law 1611 = .ok (.iload_n 3, 1) := by decide +kernel
theorem dL_law_1612 : decode cL_law 1612 = .ok (.iconst 1, 1) := by decide +kernel
theorem dL_law_1613 : decode cL_law 1613 = .ok (.iadd, 1) := by decide +kernel
theorem dL_law_1614 : decode cL_law 1614 = .ok (.iaload, 1) := by decide +kernel
theorem dL_law_1615 : decode cL_law 1615 = .ok (.aload_n 0, 1) := by decide +kernel
theorem dL_law_1616 : decode cL_law 1616 = .ok (.iload_n 3, 1) := by decide +kernel
theorem dL_law_1617 : decode cL_law 1617 = .ok (.iconst 2, 1) := by decide +kernel
theorem dL_law_1618 : decode cL_law 1618 = .ok (.iadd, 1) := by decide +kernel
theorem dL_law_1619 : decode cL_law 1619 = .ok (.iaload, 1) := by decide +kernel
theorem dL_law_1620 : decode cL_law 1620 = .ok (.aload_n 0, 1) := by decide +kernel
theorem dL_law_1621 : decode cL_law 1621 = .ok (.iload_n 3, 1) := by decide +kernel
theorem dL_law_1622 : decode cL_law 1622 = .ok (.iconst 3, 1) := by decide +kernel
theorem dL_law_1623 : decode cL_law 1623 = .ok (.iadd, 1) := by decide +kernel
theorem dL_law_1624 : decode cL_law 1624 = .ok (.iaload, 1) := by decide +kernel
theorem dL_law_1625 : decode cL_law 1625 = .ok (.invokevirtual 198, 3) := by decide +kernel
theorem dL_law_1628 : decode cL_law 1628 = .ok (.if_icmp .eq 400, 3) := by decide +kernel
theorem dL_law_1631 : decode cL_law 1631 = .ok (.iconst 0, 1) := by decide +kernel
theorem dL_law_1632 : decode cL_law 1632 = .ok (.ireturn, 1) := by decide +kernel
theorem dL_law_1633 : decode cL_law 1633 = .ok (.aload_n 1, 1) := by decide +kernel
theorem dL_law_1634 : decode cL_law 1634 = .ok (.aload_n 0, 1) := by decide +kernel
theorem dL_law_1635 : decode cL_law 1635 = .ok (.iload_n 3, 1) := by decide +kernel
theorem dL_law_1636 : decode cL_law 1636 = .ok (.iconst 1, 1) := by decide +kernel
theorem dL_law_1637 : decode cL_law 1637 = .ok (.iadd, 1) := by decide +kernel
theorem dL_law_1638 : decode cL_law 1638 = .ok (.iaload, 1) := by decide +kernel
theorem dL_law_1639 : decode cL_law 1639 = .ok (.aload_n 0, 1) := by decide +kernel
theorem dL_law_1640 : decode cL_law 1640 = .ok (.iload_n 3, 1) := by decide +kernel
theorem dL_law_1641 : decode cL_law 1641 = .ok (.iconst 2, 1) := by decide +kernel
theorem dL_law_1642 : decode cL_law 1642 = .ok (.iadd, 1) := by decide +kernel
theorem dL_law_1643 : decode cL_law 1643 = .ok (.iaload, 1) := by decide +kernel
theorem dL_law_1644 : decode cL_law 1644 = .ok (.aload_n 0, 1) := by decide +kernel
theorem dL_law_1645 : decode cL_law 1645 = .ok (.iload_n 3, 1) := by decide +kernel
theorem dL_law_1646 : decode cL_law 1646 = .ok (.iconst 3, 1) := by decide +kernel
theorem dL_law_1647 : decode cL_law 1647 = .ok (.iadd, 1) := by decide +kernel
theorem dL_law_1648 : decode cL_law 1648 = .ok (.iaload, 1) := by decide +kernel
theorem dL_law_1649 : decode cL_law 1649 = .ok (.aload_n 0, 1) := by decide +kernel
theorem dL_law_1650 : decode cL_law 1650 = .ok (.iload_n 3, 1) := by decide +kernel
theorem dL_law_1651 : decode cL_law 1651 = .ok (.iconst 4, 1) := by decide +kernel
theorem dL_law_1652 : decode cL_law 1652 = .ok (.iadd, 1) := by decide +kernel
theorem dL_law_1653 : decode cL_law 1653 = .ok (.iaload, 1) := by decide +kernel
theorem dL_law_1654 : decode cL_law 1654 = .ok (.aload_n 0, 1) := by decide +kernel
theorem dL_law_1655 : decode cL_law 1655 = .ok (.iload_n 3, 1) := by decide +kernel
theorem dL_law_1656 : decode cL_law 1656 = .ok (.iconst 5, 1) := by decide +kernel
theorem dL_law_1657 : decode cL_law 1657 = .ok (.iadd, 1) := by decide +kernel
theorem dL_law_1658 : decode cL_law 1658 = .ok (.iaload, 1) := by decide +kernel
theorem dL_law_1659 : decode cL_law 1659 = .ok (.invokevirtual 199, 3) := by decide +kernel
theorem dL_law_1662 : decode cL_law 1662 = .ok (.aload_n 2, 1) := by decide +kernel
theorem dL_law_1663 : decode cL_law 1663 = .ok (.aload_n 0, 1) := by decide +kernel
theorem dL_law_1664 : decode cL_law 1664 = .ok (.iload_n 3, 1) := by decide +kernel
theorem dL_law_1665 : decode cL_law 1665 = .ok (.iconst 1, 1) := by decide +kernel
theorem dL_law_1666 : decode cL_law 1666 = .ok (.iadd, 1) := by decide +kernel
theorem dL_law_1667 : decode cL_law 1667 = .ok (.iaload, 1) := by decide +kernel
theorem dL_law_1668 : decode cL_law 1668 = .ok (.aload_n 0, 1) := by decide +kernel
theorem dL_law_1669 : decode cL_law 1669 = .ok (.iload_n 3, 1) := by decide +kernel
theorem dL_law_1670 : decode cL_law 1670 = .ok (.iconst 2, 1) := by decide +kernel
theorem dL_law_1671 : decode cL_law 1671 = .ok (.iadd, 1) := by decide +kernel
theorem dL_law_1672 : decode cL_law 1672 = .ok (.iaload, 1) := by decide +kernel
theorem dL_law_1673 : decode cL_law 1673 = .ok (.aload_n 0, 1) := by decide +kernel
theorem dL_law_1674 : decode cL_law 1674 = .ok (.iload_n 3, 1) := by decide +kernel
theorem dL_law_1675 : decode cL_law 1675 = .ok (.iconst 3, 1) := by decide +kernel
theorem dL_law_1676 : decode cL_law 1676 = .ok (.iadd, 1) := by decide +kernel
theorem dL_law_1677 : decode cL_law 1677 = .ok (.iaload, 1) := by decide +kernel
theorem dL_law_1678 : decode cL_law 1678 = .ok (.aload_n 0, 1) := by decide +kernel
theorem dL_law_1679 : decode cL_law 1679 = .ok (.iload_n 3, 1) := by decide +kernel
theorem dL_law_1680 : decode cL_law 1680 = .ok (.iconst 4, 1) := by decide +kernel
theorem dL_law_1681 : decode cL_law 1681 = .ok (.iadd, 1) := by decide +kernel
theorem dL_law_1682 : decode cL_law 1682 = .ok (.iaload, 1) := by decide +kernel
theorem dL_law_1683 : decode cL_law 1683 = .ok (.aload_n 0, 1) := by decide +kernel
theorem dL_law_1684 : decode cL_law 1684 = .ok (.iload_n 3, 1) := by decide +kernel
theorem dL_law_1685 : decode cL_law 1685 = .ok (.iconst 5, 1) := by decide +kernel
theorem dL_law_1686 : decode cL_law 1686 = .ok (.iadd, 1) := by decide +kernel
theorem dL_law_1687 : decode cL_law 1687 = .ok (.iaload, 1) := by decide +kernel
theorem dL_law_1688 : decode cL_law 1688 = .ok (.invokevirtual 202, 3) := by decide +kernel
theorem dL_law_1691 : decode cL_law 1691 = .ok (.if_icmp .eq 337, 3) := by decide +kernel
theorem dL_law_1694 : decode cL_law 1694 = .ok (.iconst 0, 1) := by decide +kernel
theorem dL_law_1695 : decode cL_law 1695 = .ok (.ireturn, 1) := by decide +kernel
theorem dL_law_1696 : decode cL_law 1696 = .ok (.aload_n 1, 1) := by decide +kernel
theorem dL_law_1697 : decode cL_law 1697 = .ok (.aload_n 0, 1) := by decide +kernel
theorem dL_law_1698 : decode cL_law 1698 = .ok (.iload_n 3, 1) := by decide +kernel
theorem dL_law_1699 : decode cL_law 1699 = .ok (.iconst 1, 1) := by decide +kernel
theorem dL_law_1700 : decode cL_law 1700 = .ok (.iadd, 1) := by decide +kernel
theorem dL_law_1701 : decode cL_law 1701 = .ok (.iaload, 1) := by decide +kernel
theorem dL_law_1702 : decode cL_law 1702 = .ok (.invokevirtual 203, 3) := by decide +kernel
theorem dL_law_1705 : decode cL_law 1705 = .ok (.aload_n 2, 1) := by decide +kernel
theorem dL_law_1706 : decode cL_law 1706 = .ok (.aload_n 0, 1) := by decide +kernel
theorem dL_law_1707 : decode cL_law 1707 = .ok (.iload_n 3, 1) := by decide +kernel
theorem dL_law_1708 : decode cL_law 1708 = .ok (.iconst 1, 1) := by decide +kernel
theorem dL_law_1709 : decode cL_law 1709 = .ok (.iadd, 1) := by decide +kernel
theorem dL_law_1710 : decode cL_law 1710 = .ok (.iaload, 1) := by decide +kernel
theorem dL_law_1711 : decode cL_law 1711 = .ok (.invokevirtual 206, 3) := by decide +kernel
theorem dL_law_1714 : decode cL_law 1714 = .ok (.if_icmp .eq 314, 3) := by decide +kernel
theorem dL_law_1717 : decode cL_law 1717 = .ok (.iconst 0, 1) := by decide +kernel
theorem dL_law_1718 : decode cL_law 1718 = .ok (.ireturn, 1) := by decide +kernel
theorem dL_law_1719 : decode cL_law 1719 = .ok (.aload_n 1, 1) := by decide +kernel
theorem dL_law_1720 : decode cL_law 1720 = .ok (.invokevirtual 207, 3) := by decide +kernel
theorem dL_law_1723 : decode cL_law 1723 = .ok (.aload_n 2, 1) := by decide +kernel
theorem dL_law_1724 : decode cL_law 1724 = .ok (.invokevirtual 210, 3) := by decide +kernel
theorem dL_law_1727 : decode cL_law 1727 = .ok (.if_icmp .eq 301, 3) := by decide +kernel
theorem dL_law_1730 : decode cL_law 1730 = .ok (.iconst 0, 1) := by decide +kernel
theorem dL_law_1731 : decode cL_law 1731 = .ok (.ireturn, 1) := by decide +kernel
theorem dL_law_1732 : decode cL_law 1732 = .ok (.aload_n 1, 1) := by decide +kernel
theorem dL_law_1733 : decode cL_law 1733 = .ok (.invokevirtual 211, 3) := by decide +kernel
theorem dL_law_1736 : decode cL_law 1736 = .ok (.aload_n 2, 1) := by decide +kernel
theorem dL_law_1737 : decode cL_law 1737 = .ok (.invokevirtual 214, 3) := by decide +kernel
theorem dL_law_1740 : decode cL_law 1740 = .ok (.if_icmp .eq 288, 3) := by decide +kernel
theorem dL_law_1743 : decode cL_law 1743 = .ok (.iconst 0, 1) := by decide +kernel
theorem dL_law_1744 : decode cL_law 1744 = .ok (.ireturn, 1) := by decide +kernel
theorem dL_law_1745 : decode cL_law 1745 = .ok (.aload_n 1, 1) := by decide +kernel
theorem dL_law_1746 : decode cL_law 1746 = .ok (.aload_n 0, 1) := by decide +kernel
theorem dL_law_1747 : decode cL_law 1747 = .ok (.iload_n 3, 1) := by decide +kernel
theorem dL_law_1748 : decode cL_law 1748 = .ok (.iconst 1, 1) := by decide +kernel
theorem dL_law_1749 : decode cL_law 1749 = .ok (.iadd, 1) := by decide +kernel
theorem dL_law_1750 : decode cL_law 1750 = .ok (.iaload, 1) := by decide +kernel
theorem dL_law_1751 : decode cL_law 1751 = .ok (.invokevirtual 215, 3) := by decide +kernel
theorem dL_law_1754 : decode cL_law 1754 = .ok (.aload_n 2, 1) := by decide +kernel
theorem dL_law_1755 : decode cL_law 1755 = .ok (.aload_n 0, 1) := by decide +kernel
theorem dL_law_1756 : decode cL_law 1756 = .ok (.iload_n 3, 1) := by decide +kernel
theorem dL_law_1757 : decode cL_law 1757 = .ok (.iconst 1, 1) := by decide +kernel
theorem dL_law_1758 : decode cL_law 1758 = .ok (.iadd, 1) := by decide +kernel
theorem dL_law_1759 : decode cL_law 1759 = .ok (.iaload, 1) := by decide +kernel
theorem dL_law_1760 : decode cL_law 1760 = .ok (.invokevirtual 218, 3) := by decide +kernel
theorem dL_law_1763 : decode cL_law 1763 = .ok (.if_icmp .eq 265, 3) := by decide +kernel
theorem dL_law_1766 : decode cL_law 1766 = .ok (.iconst 0, 1) := by decide +kernel
theorem dL_law_1767 : decode cL_law 1767 = .ok (.ireturn, 1) := by decide +kernel
theorem dL_law_1768 : decode cL_law 1768 = .ok (.aload_n 1, 1) := by decide +kernel
theorem dL_law_1769 : decode cL_law 1769 = .ok (.aload_n 0, 1) := by decide +kernel
theorem dL_law_1770 : decode cL_law 1770 = .ok (.iload_n 3, 1) := by decide +kernel
theorem dL_law_1771 : decode cL_law 1771 = .ok (.iconst 1, 1) := by decide +kernel
theorem dL_law_1772 : decode cL_law 1772 = .ok (.iadd, 1) := by decide +kernel
theorem dL_law_1773 : decode cL_law 1773 = .ok (.iaload, 1) := by decide +kernel
theorem dL_law_1774 : decode cL_law 1774 = .ok (.invokevirtual 219, 3) := by decide +kernel
theorem dL_law_1777 : decode cL_law 1777 = .ok (.aload_n 2, 1) := by decide +kernel
theorem dL_law_1778 : decode cL_law 1778 = .ok (.aload_n 0, 1) := by decide +kernel
theorem dL_law_1779 : decode cL_law 1779 = .ok (.iload_n 3, 1) := by decide +kernel
theorem dL_law_1780 : decode cL_law 1780 = .ok (.iconst 1, 1) := by decide +kernel
theorem dL_law_1781 : decode cL_law 1781 = .ok (.iadd, 1) := by decide +kernel
theorem dL_law_1782 : decode cL_law 1782 = .ok (.iaload, 1) := by decide +kernel
theorem dL_law_1783 : decode cL_law 1783 = .ok (.invokevirtual 222, 3) := by decide +kernel
theorem dL_law_1786 : decode cL_law 1786 = .ok (.if_icmp .eq 242, 3) := by decide +kernel
theorem dL_law_1789 : decode cL_law 1789 = .ok (.iconst 0, 1) := by decide +kernel
theorem dL_law_1790 : decode cL_law 1790 = .ok (.ireturn, 1) := by decide +kernel
theorem dL_law_1791 : decode cL_law 1791 = .ok (.aload_n 1, 1) := by decide +kernel
theorem dL_law_1792 : decode cL_law 1792 = .ok (.aload_n 0, 1) := by decide +kernel
theorem dL_law_1793 : decode cL_law 1793 = .ok (.iload_n 3, 1) := by decide +kernel
theorem dL_law_1794 : decode cL_law 1794 = .ok (.iconst 1, 1) := by decide +kernel
theorem dL_law_1795 : decode cL_law 1795 = .ok (.iadd, 1) := by decide +kernel
theorem dL_law_1796 : decode cL_law 1796 = .ok (.iaload, 1) := by decide +kernel
theorem dL_law_1797 : decode cL_law 1797 = .ok (.aload_n 0, 1) := by decide +kernel
theorem dL_law_1798 : decode cL_law 1798 = .ok (.iload_n 3, 1) := by decide +kernel
theorem dL_law_1799 : decode cL_law 1799 = .ok (.iconst 2, 1) := by decide +kernel
theorem dL_law_1800 : decode cL_law 1800 = .ok (.iadd, 1) := by decide +kernel
theorem dL_law_1801 : decode cL_law 1801 = .ok (.iaload, 1) := by decide +kernel
theorem dL_law_1802 : decode cL_law 1802 = .ok (.invokevirtual 223, 3) := by decide +kernel
theorem dL_law_1805 : decode cL_law 1805 = .ok (.aload_n 2, 1) := by decide +kernel
theorem dL_law_1806 : decode cL_law 1806 = .ok (.aload_n 0, 1) := by decide +kernel
theorem dL_law_1807 : decode cL_law 1807 = .ok (.iload_n 3, 1) := by decide +kernel
theorem dL_law_1808 : decode cL_law 1808 = .ok (.iconst 1, 1) := by decide +kernel
theorem dL_law_1809 : decode cL_law 1809 = .ok (.iadd, 1) := by decide +kernel
theorem dL_law_1810 : decode cL_law 1810 = .ok (.iaload, 1) := by decide +kernel
theorem dL_law_1811 : decode cL_law 1811 = .ok (.aload_n 0, 1) := by decide +kernel
theorem dL_law_1812 : decode cL_law 1812 = .ok (.iload_n 3, 1) := by decide +kernel
theorem dL_law_1813 : decode cL_law 1813 = .ok (.iconst 2, 1) := by decide +kernel
theorem dL_law_1814 : decode cL_law 1814 = .ok (.iadd, 1) := by decide +kernel
theorem dL_law_1815 : decode cL_law 1815 = .ok (.iaload, 1) := by decide +kernel
theorem dL_law_1816 : decode cL_law 1816 = .ok (.invokevirtual 226, 3) := by decide +kernel
theorem dL_law_1819 : decode cL_law 1819 = .ok (.if_icmp .eq 209, 3) := by decide +kernel
theorem dL_law_1822 : decode cL_law 1822 = .ok (.iconst 0, 1) := by decide +kernel
theorem dL_law_1823 : decode cL_law 1823 = .ok (.ireturn, 1) := by decide +kernel
theorem dL_law_1824 : decode cL_law 1824 = .ok (.aload_n 1, 1) := by decide +kernel
theorem dL_law_1825 : decode cL_law 1825 = .ok (.aload_n 0, 1) := by decide +kernel
theorem dL_law_1826 : decode cL_law 1826 = .ok (.iload_n 3, 1) := by decide +kernel
theorem dL_law_1827 : decode cL_law 1827 = .ok (.iconst 1, 1) := by decide +kernel
theorem dL_law_1828 : decode cL_law 1828 = .ok (.iadd, 1) := by decide +kernel
theorem dL_law_1829 : decode cL_law 1829 = .ok (.iaload, 1) := by decide +kernel
theorem dL_law_1830 : decode cL_law 1830 = .ok (.invokevirtual 227, 3) := by decide +kernel
theorem dL_law_1833 : decode cL_law 1833 = .ok (.aload_n 2, 1) := by decide +kernel
theorem dL_law_1834 : decode cL_law 1834 = .ok (.aload_n 0, 1) := by decide +kernel
theorem dL_law_1835 : decode cL_law 1835 = .ok (.iload_n 3, 1) := by decide +kernel
theorem dL_law_1836 : decode cL_law 1836 = .ok (.iconst 1, 1) := by decide +kernel
theorem dL_law_1837 : decode cL_law 1837 = .ok (.iadd, 1) := by decide +kernel
theorem dL_law_1838 : decode cL_law 1838 = .ok (.iaload, 1) := by decide +kernel
theorem dL_law_1839 : decode cL_law 1839 = .ok (.invokevirtual 230, 3) := by decide +kernel
theorem dL_law_1842 : decode cL_law 1842 = .ok (.if_icmp .eq 186, 3) := by decide +kernel
theorem dL_law_1845 : decode cL_law 1845 = .ok (.iconst 0, 1) := by decide +kernel
theorem dL_law_1846 : decode cL_law 1846 = .ok (.ireturn, 1) := by decide +kernel
theorem dL_law_1847 : decode cL_law 1847 = .ok (.aload_n 1, 1) := by decide +kernel
theorem dL_law_1848 : decode cL_law 1848 = .ok (.aload_n 0, 1) := by decide +kernel
theorem dL_law_1849 : decode cL_law 1849 = .ok (.iload_n 3, 1) := by decide +kernel
theorem dL_law_1850 : decode cL_law 1850 = .ok (.iconst 1, 1) := by decide +kernel
theorem dL_law_1851 : decode cL_law 1851 = .ok (.iadd, 1) := by decide +kernel
theorem dL_law_1852 : decode cL_law 1852 = .ok (.iaload, 1) := by decide +kernel
theorem dL_law_1853 : decode cL_law 1853 = .ok (.invokevirtual 231, 3) := by decide +kernel
theorem dL_law_1856 : decode cL_law 1856 = .ok (.aload_n 2, 1) := by decide +kernel
theorem dL_law_1857 : decode cL_law 1857 = .ok (.aload_n 0, 1) := by decide +kernel
theorem dL_law_1858 : decode cL_law 1858 = .ok (.iload_n 3, 1) := by decide +kernel
theorem dL_law_1859 : decode cL_law 1859 = .ok (.iconst 1, 1) := by decide +kernel
theorem dL_law_1860 : decode cL_law 1860 = .ok (.iadd, 1) := by decide +kernel
theorem dL_law_1861 : decode cL_law 1861 = .ok (.iaload, 1) := by decide +kernel
theorem dL_law_1862 : decode cL_law 1862 = .ok (.invokevirtual 234, 3) := by decide +kernel
theorem dL_law_1865 : decode cL_law 1865 = .ok (.if_icmp .eq 163, 3) := by decide +kernel
theorem dL_law_1868 : decode cL_law 1868 = .ok (.iconst 0, 1) := by decide +kernel
theorem dL_law_1869 : decode cL_law 1869 = .ok (.ireturn, 1) := by decide +kernel
theorem dL_law_1870 : decode cL_law 1870 = .ok (.aload_n 1, 1) := by decide +kernel
theorem dL_law_1871 : decode cL_law 1871 = .ok (.aload_n 0, 1) := by decide +kernel
theorem dL_law_1872 : decode cL_law 1872 = .ok (.iload_n 3, 1) := by decide +kernel
theorem dL_law_1873 : decode cL_law 1873 = .ok (.iconst 1, 1) := by decide +kernel
theorem dL_law_1874 : decode cL_law 1874 = .ok (.iadd, 1) := by decide +kernel
theorem dL_law_1875 : decode cL_law 1875 = .ok (.iaload, 1) := by decide +kernel
theorem dL_law_1876 : decode cL_law 1876 = .ok (.invokevirtual 235, 3) := by decide +kernel
theorem dL_law_1879 : decode cL_law 1879 = .ok (.aload_n 2, 1) := by decide +kernel
theorem dL_law_1880 : decode cL_law 1880 = .ok (.aload_n 0, 1) := by decide +kernel
theorem dL_law_1881 : decode cL_law 1881 = .ok (.iload_n 3, 1) := by decide +kernel
theorem dL_law_1882 : decode cL_law 1882 = .ok (.iconst 1, 1) := by decide +kernel
theorem dL_law_1883 : decode cL_law 1883 = .ok (.iadd, 1) := by decide +kernel
theorem dL_law_1884 : decode cL_law 1884 = .ok (.iaload, 1) := by decide +kernel
theorem dL_law_1885 : decode cL_law 1885 = .ok (.invokevirtual 238, 3) := by decide +kernel
theorem dL_law_1888 : decode cL_law 1888 = .ok (.if_icmp .eq 140, 3) := by decide +kernel
theorem dL_law_1891 : decode cL_law 1891 = .ok (.iconst 0, 1) := by decide +kernel
theorem dL_law_1892 : decode cL_law 1892 = .ok (.ireturn, 1) := by decide +kernel
theorem dL_law_1893 : decode cL_law 1893 = .ok (.aload_n 1, 1) := by decide +kernel
theorem dL_law_1894 : decode cL_law 1894 = .ok (.aload_n 0, 1) := by decide +kernel
theorem dL_law_1895 : decode cL_law 1895 = .ok (.iload_n 3, 1) := by decide +kernel
theorem dL_law_1896 : decode cL_law 1896 = .ok (.iconst 1, 1) := by decide +kernel
theorem dL_law_1897 : decode cL_law 1897 = .ok (.iadd, 1) := by decide +kernel
theorem dL_law_1898 : decode cL_law 1898 = .ok (.iaload, 1) := by decide +kernel
theorem dL_law_1899 : decode cL_law 1899 = .ok (.invokevirtual 239, 3) := by decide +kernel
theorem dL_law_1902 : decode cL_law 1902 = .ok (.aload_n 2, 1) := by decide +kernel
theorem dL_law_1903 : decode cL_law 1903 = .ok (.aload_n 0, 1) := by decide +kernel
theorem dL_law_1904 : decode cL_law 1904 = .ok (.iload_n 3, 1) := by decide +kernel
theorem dL_law_1905 : decode cL_law 1905 = .ok (.iconst 1, 1) := by decide +kernel
theorem dL_law_1906 : decode cL_law 1906 = .ok (.iadd, 1) := by decide +kernel
theorem dL_law_1907 : decode cL_law 1907 = .ok (.iaload, 1) := by decide +kernel
theorem dL_law_1908 : decode cL_law 1908 = .ok (.invokevirtual 242, 3) := by decide +kernel
theorem dL_law_1911 : decode cL_law 1911 = .ok (.if_icmp .eq 117, 3) := by decide +kernel
theorem dL_law_1914 : decode cL_law 1914 = .ok (.iconst 0, 1) := by decide +kernel
theorem dL_law_1915 : decode cL_law 1915 = .ok (.ireturn, 1) := by decide +kernel
theorem dL_law_1916 : decode cL_law 1916 = .ok (.aload_n 1, 1) := by decide +kernel
theorem dL_law_1917 : decode cL_law 1917 = .ok (.aload_n 0, 1) := by decide +kernel
theorem dL_law_1918 : decode cL_law 1918 = .ok (.iload_n 3, 1) := by decide +kernel
theorem dL_law_1919 : decode cL_law 1919 = .ok (.iconst 1, 1) := by decide +kernel
theorem dL_law_1920 : decode cL_law 1920 = .ok (.iadd, 1) := by decide +kernel
theorem dL_law_1921 : decode cL_law 1921 = .ok (.iaload, 1) := by decide +kernel
theorem dL_law_1922 : decode cL_law 1922 = .ok (.aload_n 0, 1) := by decide +kernel
theorem dL_law_1923 : decode cL_law 1923 = .ok (.iload_n 3, 1) := by decide +kernel
theorem dL_law_1924 : decode cL_law 1924 = .ok (.iconst 2, 1) := by decide +kernel
theorem dL_law_1925 : decode cL_law 1925 = .ok (.iadd, 1) := by decide +kernel
theorem dL_law_1926 : decode cL_law 1926 = .ok (.iaload, 1) := by decide +kernel
theorem dL_law_1927 : decode cL_law 1927 = .ok (.aload_n 0, 1) := by decide +kernel
theorem dL_law_1928 : decode cL_law 1928 = .ok (.iload_n 3, 1) := by decide +kernel
theorem dL_law_1929 : decode cL_law 1929 = .ok (.iconst 3, 1) := by decide +kernel
theorem dL_law_1930 : decode cL_law 1930 = .ok (.iadd, 1) := by decide +kernel
theorem dL_law_1931 : decode cL_law 1931 = .ok (.iaload, 1) := by decide +kernel
theorem dL_law_1932 : decode cL_law 1932 = .ok (.invokevirtual 243, 3) := by decide +kernel
theorem dL_law_1935 : decode cL_law 1935 = .ok (.aload_n 2, 1) := by decide +kernel
theorem dL_law_1936 : decode cL_law 1936 = .ok (.aload_n 0, 1) := by decide +kernel
theorem dL_law_1937 : decode cL_law 1937 = .ok (.iload_n 3, 1) := by decide +kernel
theorem dL_law_1938 : decode cL_law 1938 = .ok (.iconst 1, 1) := by decide +kernel
theorem dL_law_1939 : decode cL_law 1939 = .ok (.iadd, 1) := by decide +kernel
theorem dL_law_1940 : decode cL_law 1940 = .ok (.iaload, 1) := by decide +kernel
theorem dL_law_1941 : decode cL_law 1941 = .ok (.aload_n 0, 1) := by decide +kernel
theorem dL_law_1942 : decode cL_law 1942 = .ok (.iload_n 3, 1) := by decide +kernel
theorem dL_law_1943 : decode cL_law 1943 = .ok (.iconst 2, 1) := by decide +kernel
theorem dL_law_1944 : decode cL_law 1944 = .ok (.iadd, 1) := by decide +kernel
theorem dL_law_1945 : decode cL_law 1945 = .ok (.iaload, 1) := by decide +kernel
theorem dL_law_1946 : decode cL_law 1946 = .ok (.aload_n 0, 1) := by decide +kernel
theorem dL_law_1947 : decode cL_law 1947 = .ok (.iload_n 3, 1) := by decide +kernel
theorem dL_law_1948 : decode cL_law 1948 = .ok (.iconst 3, 1) := by decide +kernel
theorem dL_law_1949 : decode cL_law 1949 = .ok (.iadd, 1) := by decide +kernel
theorem dL_law_1950 : decode cL_law 1950 = .ok (.iaload, 1) := by decide +kernel
theorem dL_law_1951 : decode cL_law 1951 = .ok (.invokevirtual 246, 3) := by decide +kernel
theorem dL_law_1954 : decode cL_law 1954 = .ok (.if_icmp .eq 74, 3) := by decide +kernel
theorem dL_law_1957 : decode cL_law 1957 = .ok (.iconst 0, 1) := by decide +kernel
theorem dL_law_1958 : decode cL_law 1958 = .ok (.ireturn, 1) := by decide +kernel
theorem dL_law_1959 : decode cL_law 1959 = .ok (.aload_n 1, 1) := by decide +kernel
theorem dL_law_1960 : decode cL_law 1960 = .ok (.aload_n 0, 1) := by decide +kernel
theorem dL_law_1961 : decode cL_law 1961 = .ok (.iload_n 3, 1) := by decide +kernel
theorem dL_law_1962 : decode cL_law 1962 = .ok (.iconst 1, 1) := by decide +kernel
theorem dL_law_1963 : decode cL_law 1963 = .ok (.iadd, 1) := by decide +kernel
theorem dL_law_1964 : decode cL_law 1964 = .ok (.iaload, 1) := by decide +kernel
theorem dL_law_1965 : decode cL_law 1965 = .ok (.aload_n 0, 1) := by decide +kernel
theorem dL_law_1966 : decode cL_law 1966 = .ok (.iload_n 3, 1) := by decide +kernel
theorem dL_law_1967 : decode cL_law 1967 = .ok (.iconst 2, 1) := by decide +kernel
theorem dL_law_1968 : decode cL_law 1968 = .ok (.iadd, 1) := by decide +kernel
theorem dL_law_1969 : decode cL_law 1969 = .ok (.iaload, 1) := by decide +kernel
theorem dL_law_1970 : decode cL_law 1970 = .ok (.invokevirtual 247, 3) := by decide +kernel
theorem dL_law_1973 : decode cL_law 1973 = .ok (.aload_n 2, 1) := by decide +kernel
theorem dL_law_1974 : decode cL_law 1974 = .ok (.aload_n 0, 1) := by decide +kernel
theorem dL_law_1975 : decode cL_law 1975 = .ok (.iload_n 3, 1) := by decide +kernel
theorem dL_law_1976 : decode cL_law 1976 = .ok (.iconst 1, 1) := by decide +kernel
theorem dL_law_1977 : decode cL_law 1977 = .ok (.iadd, 1) := by decide +kernel
theorem dL_law_1978 : decode cL_law 1978 = .ok (.iaload, 1) := by decide +kernel
theorem dL_law_1979 : decode cL_law 1979 = .ok (.aload_n 0, 1) := by decide +kernel
theorem dL_law_1980 : decode cL_law 1980 = .ok (.iload_n 3, 1) := by decide +kernel
theorem dL_law_1981 : decode cL_law 1981 = .ok (.iconst 2, 1) := by decide +kernel
theorem dL_law_1982 : decode cL_law 1982 = .ok (.iadd, 1) := by decide +kernel
theorem dL_law_1983 : decode cL_law 1983 = .ok (.iaload, 1) := by decide +kernel
theorem dL_law_1984 : decode cL_law 1984 = .ok (.invokevirtual 250, 3) := by decide +kernel
theorem dL_law_1987 : decode cL_law 1987 = .ok (.if_icmp .eq 41, 3) := by decide +kernel
theorem dL_law_1990 : decode cL_law 1990 = .ok (.iconst 0, 1) := by decide +kernel
theorem dL_law_1991 : decode cL_law 1991 = .ok (.ireturn, 1) := by decide +kernel
theorem dL_law_1992 : decode cL_law 1992 = .ok (.aload_n 1, 1) := by decide +kernel
theorem dL_law_1993 : decode cL_law 1993 = .ok (.invokevirtual 251, 3) := by decide +kernel
theorem dL_law_1996 : decode cL_law 1996 = .ok (.aload_n 2, 1) := by decide +kernel
theorem dL_law_1997 : decode cL_law 1997 = .ok (.invokevirtual 254, 3) := by decide +kernel
theorem dL_law_2000 : decode cL_law 2000 = .ok (.if_icmp .eq 28, 3) := by decide +kernel
theorem dL_law_2003 : decode cL_law 2003 = .ok (.iconst 0, 1) := by decide +kernel
theorem dL_law_2004 : decode cL_law 2004 = .ok (.ireturn, 1) := by decide +kernel
theorem dL_law_2005 : decode cL_law 2005 = .ok (.aload_n 1, 1) := by decide +kernel
theorem dL_law_2006 : decode cL_law 2006 = .ok (.aload_n 0, 1) := by decide +kernel
theorem dL_law_2007 : decode cL_law 2007 = .ok (.iload_n 3, 1) := by decide +kernel
theorem dL_law_2008 : decode cL_law 2008 = .ok (.iconst 1, 1) := by decide +kernel
theorem dL_law_2009 : decode cL_law 2009 = .ok (.iadd, 1) := by decide +kernel
theorem dL_law_2010 : decode cL_law 2010 = .ok (.iaload, 1) := by decide +kernel
theorem dL_law_2011 : decode cL_law 2011 = .ok (.invokevirtual 255, 3) := by decide +kernel
theorem dL_law_2014 : decode cL_law 2014 = .ok (.aload_n 2, 1) := by decide +kernel
theorem dL_law_2015 : decode cL_law 2015 = .ok (.aload_n 0, 1) := by decide +kernel
theorem dL_law_2016 : decode cL_law 2016 = .ok (.iload_n 3, 1) := by decide +kernel
theorem dL_law_2017 : decode cL_law 2017 = .ok (.iconst 1, 1) := by decide +kernel
theorem dL_law_2018 : decode cL_law 2018 = .ok (.iadd, 1) := by decide +kernel
theorem dL_law_2019 : decode cL_law 2019 = .ok (.iaload, 1) := by decide +kernel
theorem dL_law_2020 : decode cL_law 2020 = .ok (.invokevirtual 258, 3) := by decide +kernel
theorem dL_law_2023 : decode cL_law 2023 = .ok (.if_icmp .eq 5, 3) := by decide +kernel
theorem dL_law_2026 : decode cL_law 2026 = .ok (.iconst 0, 1) := by decide +kernel
theorem dL_law_2027 : decode cL_law 2027 = .ok (.ireturn, 1) := by decide +kernel
theorem dL_law_2028 : decode cL_law 2028 = .ok (.iinc 3 6, 3) := by decide +kernel
theorem dL_law_2031 : decode cL_law 2031 = .ok (.goto (-2013), 3) := by decide +kernel
theorem dL_law_2034 : decode cL_law 2034 = .ok (.iconst 1, 1) := by decide +kernel
theorem dL_law_2035 : decode cL_law 2035 = .ok (.ireturn, 1) := by decide +kernel
