theorem bk_cX7_init_40 : (cX7_init.data.toList.drop 40).take 40 = [42, 16, 10, 189, 0, 17, 181, 0, 31, 42, 3, 181, 0, 35, 42, 187, 0, 38, 89, 183, 0, 40, 181, 0, 41, 42, 3, 181, 0, 45, 42, 2, 181, 0, 48, 42, 187, 0, 51, 89] := by decide +kernel
theorem dX7_init_40 : decode cX7_init 40 = .ok (.aload_n 0, 1) := dk_42 (blk_at bk_cX7_init_40 0 rfl)
theorem dX7_init_41 : decode cX7_init 41 = .ok (.bipush 10, 2) := dq_16 bk_cX7_init_40 1 rfl (by decide)
theorem dX7_init_43 : decode cX7_init 43 = .ok (.anewarray 17, 3) := dq_189 bk_cX7_init_40 3 rfl rfl
theorem dX7_init_46 : decode cX7_init 46 = .ok (.putfield 31, 3) := dq_181 bk_cX7_init_40 6 rfl rfl
theorem dX7_init_49 : decode cX7_init 49 = .ok (.aload_n 0, 1) := dk_42 (blk_at bk_cX7_init_40 9 rfl)
theorem dX7_init_50 : decode cX7_init 50 = .ok (.iconst 0, 1) := dk_3 (blk_at bk_cX7_init_40 10 rfl)
theorem dX7_init_51 : decode cX7_init 51 = .ok (.putfield 35, 3) := dq_181 bk_cX7_init_40 11 rfl rfl
theorem dX7_init_54 : decode cX7_init 54 = .ok (.aload_n 0, 1) := dk_42 (blk_at bk_cX7_init_40 14 rfl)
theorem dX7_init_55 : decode cX7_init 55 = .ok (.new 38, 3) := dq_187 bk_cX7_init_40 15 rfl rfl
theorem dX7_init_58 : decode cX7_init 58 = .ok (.dup, 1) := dk_89 (blk_at bk_cX7_init_40 18 rfl)
theorem dX7_init_59 : decode cX7_init 59 = .ok (.invokespecial 40, 3) := dq_183 bk_cX7_init_40 19 rfl rfl
theorem dX7_init_62 : decode cX7_init 62 = .ok (.putfield 41, 3) := dq_181 bk_cX7_init_40 22 rfl rfl
theorem dX7_init_65 : decode cX7_init 65 = .ok (.aload_n 0, 1) := dk_42 (blk_at bk_cX7_init_40 25 rfl)
theorem dX7_init_66 : decode cX7_init 66 = .ok (.iconst 0, 1) := dk_3 (blk_at bk_cX7_init_40 26 rfl)
theorem dX7_init_67 : decode cX7_init 67 = .ok (.putfield 45, 3) := dq_181 bk_cX7_init_40 27 rfl rfl
theorem dX7_init_70 : decode cX7_init 70 = .ok (.aload_n 0, 1) := dk_42 (blk_at bk_cX7_init_40 30 rfl)
theorem dX7_init_71 : decode cX7_init 71 = .ok (.iconst (-1), 1) := dk_2 (blk_at bk_cX7_init_40 31 rfl)
theorem dX7_init_72 : decode cX7_init 72 = .ok (.putfield 48, 3) := dq_181 bk_cX7_init_40 32 rfl rfl
theorem dX7_init_75 : decode cX7_init 75 = .ok (.aload_n 0, 1) := dk_42 (blk_at bk_cX7_init_40 35 rfl)
theorem dX7_init_76 : decode cX7_init 76 = .ok (.new 51, 3) := dq_187 bk_cX7_init_40 36 rfl rfl
theorem dX7_init_79 : decode cX7_init 79 = .ok (.dup, 1) := dk_89 (blk_at bk_cX7_init_40 39 rfl)
theorem bk_cX7_init_80 : (cX7_init.data.toList.drop 80).take 38 = [183, 0, 53, 181, 0, 54, 42, 187, 0, 58, 89, 183, 0, 60, 181, 0, 61, 3, 60, 27, 16, 10, 162, 0, 22, 42, 180, 0, 31, 27, 187, 0, 17, 89, 183, 0, 19, 83] := by decide +kernel
theorem dX7_init_80 : decode cX7_init 80 = .ok (.invokespecial 53, 3) := dq_183 bk_cX7_init_80 0 rfl rfl
theorem dX7_init_83 : decode cX7_init 83 = .ok (.putfield 54, 3) := dq_181 bk_cX7_init_80 3 rfl rfl
theorem dX7_init_86 : decode cX7_init 86 = .ok (.aload_n 0, 1) := dk_42 (blk_at bk_cX7_init_80 6 rfl)
theorem dX7_init_87 : decode cX7_init 87 = .ok (.new 58, 3) := dq_187 bk_cX7_init_80 7 rfl rfl
theorem dX7_init_90 : decode cX7_init 90 = .ok (.dup, 1) := dk_89 (blk_at bk_cX7_init_80 10 rfl)
theorem dX7_init_91 : decode cX7_init 91 = .ok (.invokespecial 60, 3) := dq_183 bk_cX7_init_80 11 rfl rfl
theorem dX7_init_94 : decode cX7_init 94 = .ok (.putfield 61, 3) := dq_181 bk_cX7_init_80 14 rfl rfl
theorem dX7_init_97 : decode cX7_init 97 = .ok (.iconst 0, 1) := dk_3 (blk_at bk_cX7_init_80 17 rfl)
theorem dX7_init_98 : decode cX7_init 98 = .ok (.istore_n 1, 1) := dk_60 (blk_at bk_cX7_init_80 18 rfl)
theorem dX7_init_99 : decode cX7_init 99 = .ok (.iload_n 1, 1) := dk_27 (blk_at bk_cX7_init_80 19 rfl)
theorem dX7_init_100 : decode cX7_init 100 = .ok (.bipush 10, 2) := dq_16 bk_cX7_init_80 20 rfl (by decide)
theorem dX7_init_102 : decode cX7_init 102 = .ok (.if_icmp .ge 22, 3) := dq_162 bk_cX7_init_80 22 rfl (by decide)
theorem dX7_init_105 : decode cX7_init 105 = .ok (.aload_n 0, 1) := dk_42 (blk_at bk_cX7_init_80 25 rfl)
theorem dX7_init_106 : decode cX7_init 106 = .ok (.getfield 31, 3) := dq_180 bk_cX7_init_80 26 rfl rfl
theorem dX7_init_109 : decode cX7_init 109 = .ok (.iload_n 1, 1) := dk_27 (blk_at bk_cX7_init_80 29 rfl)
theorem dX7_init_110 : decode cX7_init 110 = .ok (.new 17, 3) := dq_187 bk_cX7_init_80 30 rfl rfl
theorem dX7_init_113 : decode cX7_init 113 = .ok (.dup, 1) := dk_89 (blk_at bk_cX7_init_80 33 rfl)
theorem dX7_init_114 : decode cX7_init 114 = .ok (.invokespecial 19, 3) := dq_183 bk_cX7_init_80 34 rfl rfl
theorem dX7_init_117 : decode cX7_init 117 = .ok (.aastore, 1) := dk_83 (blk_at bk_cX7_init_80 37 rfl)
theorem bk_cX7_init_118 : (cX7_init.data.toList.drop 118).take 7 = [132, 1, 1, 167, 255, 234, 177] := by decide +kernel
theorem dX7_init_118 : decode cX7_init 118 = .ok (.iinc 1 1, 3) := dq_132 bk_cX7_init_118 0 rfl rfl (by decide)
theorem dX7_init_121 : decode cX7_init 121 = .ok (.goto (-22), 3) := dq_167 bk_cX7_init_118 3 rfl (by decide)
theorem dX7_init_124 : decode cX7_init 124 = .ok (.return_, 1) := dk_177 (blk_at bk_cX7_init_118 6 rfl)
theorem bk_cX7_feed_0 : (cX7_feed.data.toList.drop 0).take 39 = [42, 180, 0, 13, 16, 20, 96, 17, 4, 176, 164, 0, 5, 2, 172, 42, 27, 182, 0, 65, 42, 28, 182, 0, 65, 42, 29, 182, 0, 65, 42, 21, 4, 182, 0, 65, 42, 21, 5] := by decide +kernel
theorem dX7_feed_0 : decode cX7_feed 0 = .ok (.aload_n 0, 1) := dk_42 (blk_at bk_cX7_feed_0 0 rfl)
theorem dX7_feed_1 : decode cX7_feed 1 = .ok (.getfield 13, 3) := dq_180 bk_cX7_feed_0 1 rfl rfl
theorem dX7_feed_4 : decode cX7_feed 4 = .ok (.bipush 20, 2) := dq_16 bk_cX7_feed_0 4 rfl (by decide)
theorem dX7_feed_6 : decode cX7_feed 6 = .ok (.iadd, 1) := dk_96 (blk_at bk_cX7_feed_0 6 rfl)
theorem dX7_feed_7 : decode cX7_feed 7 = .ok (.sipush 1200, 3) := dq_17 bk_cX7_feed_0 7 rfl (by decide)
theorem dX7_feed_10 : decode cX7_feed 10 = .ok (.if_icmp .le 5, 3) := dq_164 bk_cX7_feed_0 10 rfl (by decide)
theorem dX7_feed_13 : decode cX7_feed 13 = .ok (.iconst (-1), 1) := dk_2 (blk_at bk_cX7_feed_0 13 rfl)
theorem dX7_feed_14 : decode cX7_feed 14 = .ok (.ireturn, 1) := dk_172 (blk_at bk_cX7_feed_0 14 rfl)
theorem dX7_feed_15 : decode cX7_feed 15 = .ok (.aload_n 0, 1) := dk_42 (blk_at bk_cX7_feed_0 15 rfl)
theorem dX7_feed_16 : decode cX7_feed 16 = .ok (.iload_n 1, 1) := dk_27 (blk_at bk_cX7_feed_0 16 rfl)
theorem dX7_feed_17 : decode cX7_feed 17 = .ok (.invokevirtual 65, 3) := dq_182 bk_cX7_feed_0 17 rfl rfl
theorem dX7_feed_20 : decode cX7_feed 20 = .ok (.aload_n 0, 1) := dk_42 (blk_at bk_cX7_feed_0 20 rfl)
theorem dX7_feed_21 : decode cX7_feed 21 = .ok (.iload_n 2, 1) := dk_28 (blk_at bk_cX7_feed_0 21 rfl)
theorem dX7_feed_22 : decode cX7_feed 22 = .ok (.invokevirtual 65, 3) := dq_182 bk_cX7_feed_0 22 rfl rfl
theorem dX7_feed_25 : decode cX7_feed 25 = .ok (.aload_n 0, 1) := dk_42 (blk_at bk_cX7_feed_0 25 rfl)
theorem dX7_feed_26 : decode cX7_feed 26 = .ok (.iload_n 3, 1) := dk_29 (blk_at bk_cX7_feed_0 26 rfl)
theorem dX7_feed_27 : decode cX7_feed 27 = .ok (.invokevirtual 65, 3) := dq_182 bk_cX7_feed_0 27 rfl rfl
theorem dX7_feed_30 : decode cX7_feed 30 = .ok (.aload_n 0, 1) := dk_42 (blk_at bk_cX7_feed_0 30 rfl)
theorem dX7_feed_31 : decode cX7_feed 31 = .ok (.iload 4, 2) := dq_21 bk_cX7_feed_0 31 rfl rfl
theorem dX7_feed_33 : decode cX7_feed 33 = .ok (.invokevirtual 65, 3) := dq_182 bk_cX7_feed_0 33 rfl rfl
theorem dX7_feed_36 : decode cX7_feed 36 = .ok (.aload_n 0, 1) := dk_42 (blk_at bk_cX7_feed_0 36 rfl)
theorem dX7_feed_37 : decode cX7_feed 37 = .ok (.iload 5, 2) := dq_21 bk_cX7_feed_0 37 rfl rfl
theorem bk_cX7_feed_39 : (cX7_feed.data.toList.drop 39).take 8 = [182, 0, 65, 42, 180, 0, 13, 172] := by decide +kernel
theorem dX7_feed_39 : decode cX7_feed 39 = .ok (.invokevirtual 65, 3) := dq_182 bk_cX7_feed_39 0 rfl rfl
theorem dX7_feed_42 : decode cX7_feed 42 = .ok (.aload_n 0, 1) := dk_42 (blk_at bk_cX7_feed_39 3 rfl)
theorem dX7_feed_43 : decode cX7_feed 43 = .ok (.getfield 13, 3) := dq_180 bk_cX7_feed_39 4 rfl rfl
theorem dX7_feed_46 : decode cX7_feed 46 = .ok (.ireturn, 1) := dk_172 (blk_at bk_cX7_feed_39 7 rfl)
theorem bk_cX7_end_0 : (cX7_end.data.toList.drop 0).take 21 = [27, 155, 0, 11, 27, 42, 180, 0, 13, 164, 0, 5, 2, 172, 42, 27, 181, 0, 13, 27, 172] := by decide +kernel
theorem dX7_end_0 : decode cX7_end 0 = .ok (.iload_n 1, 1) := dk_27 (blk_at bk_cX7_end_0 0 rfl)
theorem dX7_end_1 : decode cX7_end 1 = .ok (.ifCond .lt 11, 3) := dq_155 bk_cX7_end_0 1 rfl (by decide)
theorem dX7_end_4 : decode cX7_end 4 = .ok (.iload_n 1, 1) := dk_27 (blk_at bk_cX7_end_0 4 rfl)
theorem dX7_end_5 : decode cX7_end 5 = .ok (.aload_n 0, 1) := dk_42 (blk_at bk_cX7_end_0 5 rfl)
theorem dX7_end_6 : decode cX7_end 6 = .ok (.getfield 13, 3) := dq_180 bk_cX7_end_0 6 rfl rfl
theorem dX7_end_9 : decode cX7_end 9 = .ok (.if_icmp .le 5, 3) := dq_164 bk_cX7_end_0 9 rfl (by decide)
theorem dX7_end_12 : decode cX7_end 12 = .ok (.iconst (-1), 1) := dk_2 (blk_at bk_cX7_end_0 12 rfl)
theorem dX7_end_13 : decode cX7_end 13 = .ok (.ireturn, 1) := dk_172 (blk_at bk_cX7_end_0 13 rfl)
theorem dX7_end_14 : decode cX7_end 14 = .ok (.aload_n 0, 1) := dk_42 (blk_at bk_cX7_end_0 14 rfl)
theorem dX7_end_15 : decode cX7_end 15 = .ok (.iload_n 1, 1) := dk_27 (blk_at bk_cX7_end_0 15 rfl)
theorem dX7_end_16 : decode cX7_end 16 = .ok (.putfield 13, 3) := dq_181 bk_cX7_end_0 16 rfl rfl
theorem dX7_end_19 : decode cX7_end 19 = .ok (.iload_n 1, 1) := dk_27 (blk_at bk_cX7_end_0 19 rfl)
theorem dX7_end_20 : decode cX7_end 20 = .ok (.ireturn, 1) := dk_172 (blk_at bk_cX7_end_0 20 rfl)
theorem bk_cX7_text_0 : (cX7_text.data.toList.drop 0).take 40 = [42, 180, 0, 41, 42, 180, 0, 9, 42, 180, 0, 13, 182, 0, 69, 60, 42, 3, 181, 0, 13, 42, 42, 180, 0, 41, 180, 0, 73, 181, 0, 45, 42, 42, 180, 0, 41, 180, 0, 76] := by decide +kernel
theorem dX7_text_0 : decode cX7_text 0 = .ok (.aload_n 0, 1) := dk_42 (blk_at bk_cX7_text_0 0 rfl)
theorem dX7_text_1 : decode cX7_text 1 = .ok (.getfield 41, 3) := dq_180 bk_cX7_text_0 1 rfl rfl
theorem dX7_text_4 : decode cX7_text 4 = .ok (.aload_n 0, 1) := dk_42 (blk_at bk_cX7_text_0 4 rfl)
theorem dX7_text_5 : decode cX7_text 5 = .ok (.getfield 9, 3) := dq_180 bk_cX7_text_0 5 rfl rfl
theorem dX7_text_8 : decode cX7_text 8 = .ok (.aload_n 0, 1) := dk_42 (blk_at bk_cX7_text_0 8 rfl)
theorem dX7_text_9 : decode cX7_text 9 = .ok (.getfield 13, 3) := dq_180 bk_cX7_text_0 9 rfl rfl
theorem dX7_text_12 : decode cX7_text 12 = .ok (.invokevirtual 69, 3) := dq_182 bk_cX7_text_0 12 rfl rfl
theorem dX7_text_15 : decode cX7_text 15 = .ok (.istore_n 1, 1) := dk_60 (blk_at bk_cX7_text_0 15 rfl)
theorem dX7_text_16 : decode cX7_text 16 = .ok (.aload_n 0, 1) := dk_42 (blk_at bk_cX7_text_0 16 rfl)
theorem dX7_text_17 : decode cX7_text 17 = .ok (.iconst 0, 1) := dk_3 (blk_at bk_cX7_text_0 17 rfl)
theorem dX7_text_18 : decode cX7_text 18 = .ok (.putfield 13, 3) := dq_181 bk_cX7_text_0 18 rfl rfl
theorem dX7_text_21 : decode cX7_text 21 = .ok (.aload_n 0, 1) := dk_42 (blk_at bk_cX7_text_0 21 rfl)
theorem dX7_text_22 : decode cX7_text 22 = .ok (.aload_n 0, 1) := dk_42 (blk_at bk_cX7_text_0 22 rfl)
theorem dX7_text_23 : decode cX7_text 23 = .ok (.getfield 41, 3) := dq_180 bk_cX7_text_0 23 rfl rfl
theorem dX7_text_26 : decode cX7_text 26 = .ok (.getfield 73, 3) := dq_180 bk_cX7_text_0 26 rfl rfl
theorem dX7_text_29 : decode cX7_text 29 = .ok (.putfield 45, 3) := dq_181 bk_cX7_text_0 29 rfl rfl
theorem dX7_text_32 : decode cX7_text 32 = .ok (.aload_n 0, 1) := dk_42 (blk_at bk_cX7_text_0 32 rfl)
theorem dX7_text_33 : decode cX7_text 33 = .ok (.aload_n 0, 1) := dk_42 (blk_at bk_cX7_text_0 33 rfl)
theorem dX7_text_34 : decode cX7_text 34 = .ok (.getfield 41, 3) := dq_180 bk_cX7_text_0 34 rfl rfl
theorem dX7_text_37 : decode cX7_text 37 = .ok (.getfield 76, 3) := dq_180 bk_cX7_text_0 37 rfl rfl
theorem bk_cX7_text_40 : (cX7_text.data.toList.drop 40).take 40 = [181, 0, 48, 27, 154, 0, 6, 16, 252, 172, 42, 180, 0, 20, 42, 180, 0, 41, 180, 0, 79, 182, 0, 80, 42, 180, 0, 27, 42, 180, 0, 41, 180, 0, 84, 182, 0, 85, 42, 3] := by decide +kernel
theorem dX7_text_40 : decode cX7_text 40 = .ok (.putfield 48, 3) := dq_181 bk_cX7_text_40 0 rfl rfl
theorem dX7_text_43 : decode cX7_text 43 = .ok (.iload_n 1, 1) := dk_27 (blk_at bk_cX7_text_40 3 rfl)
theorem dX7_text_44 : decode cX7_text 44 = .ok (.ifCond .ne 6, 3) := dq_154 bk_cX7_text_40 4 rfl (by decide)
theorem dX7_text_47 : decode cX7_text 47 = .ok (.bipush (-4), 2) := dq_16 bk_cX7_text_40 7 rfl (by decide)
theorem dX7_text_49 : decode cX7_text 49 = .ok (.ireturn, 1) := dk_172 (blk_at bk_cX7_text_40 9 rfl)
theorem dX7_text_50 : decode cX7_text 50 = .ok (.aload_n 0, 1) := dk_42 (blk_at bk_cX7_text_40 10 rfl)
theorem dX7_text_51 : decode cX7_text 51 = .ok (.getfield 20, 3) := dq_180 bk_cX7_text_40 11 rfl rfl
theorem dX7_text_54 : decode cX7_text 54 = .ok (.aload_n 0, 1) := dk_42 (blk_at bk_cX7_text_40 14 rfl)
theorem dX7_text_55 : decode cX7_text 55 = .ok (.getfield 41, 3) := dq_180 bk_cX7_text_40 15 rfl rfl
theorem dX7_text_58 : decode cX7_text 58 = .ok (.getfield 79, 3) := dq_180 bk_cX7_text_40 18 rfl rfl
theorem dX7_text_61 : decode cX7_text 61 = .ok (.invokevirtual 80, 3) := dq_182 bk_cX7_text_40 21 rfl rfl
theorem dX7_text_64 : decode cX7_text 64 = .ok (.aload_n 0, 1) := dk_42 (blk_at bk_cX7_text_40 24 rfl)
theorem dX7_text_65 : decode cX7_text 65 = .ok (.getfield 27, 3) := dq_180 bk_cX7_text_40 25 rfl rfl
theorem dX7_text_68 : decode cX7_text 68 = .ok (.aload_n 0, 1) := dk_42 (blk_at bk_cX7_text_40 28 rfl)
theorem dX7_text_69 : decode cX7_text 69 = .ok (.getfield 41, 3) := dq_180 bk_cX7_text_40 29 rfl rfl
theorem dX7_text_72 : decode cX7_text 72 = .ok (.getfield 84, 3) := dq_180 bk_cX7_text_40 32 rfl rfl
theorem dX7_text_75 : decode cX7_text 75 = .ok (.invokevirtual 85, 3) := dq_182 bk_cX7_text_40 35 rfl rfl
theorem dX7_text_78 : decode cX7_text 78 = .ok (.aload_n 0, 1) := dk_42 (blk_at bk_cX7_text_40 38 rfl)
theorem dX7_text_79 : decode cX7_text 79 = .ok (.iconst 0, 1) := dk_3 (blk_at bk_cX7_text_40 39 rfl)
theorem bk_cX7_text_80 : (cX7_text.data.toList.drop 80).take 11 = [181, 0, 35, 42, 180, 0, 41, 180, 0, 88, 172] := by decide +kernel
theorem dX7_text_80 : decode cX7_text 80 = .ok (.putfield 35, 3) := dq_181 bk_cX7_text_80 0 rfl rfl
theorem dX7_text_83 : decode cX7_text 83 = .ok (.aload_n 0, 1) := dk_42 (blk_at bk_cX7_text_80 3 rfl)
theorem dX7_text_84 : decode cX7_text 84 = .ok (.getfield 41, 3) := dq_180 bk_cX7_text_80 4 rfl rfl
theorem dX7_text_87 : decode cX7_text 87 = .ok (.getfield 88, 3) := dq_180 bk_cX7_text_80 7 rfl rfl
theorem dX7_text_90 : decode cX7_text 90 = .ok (.ireturn, 1) := dk_172 (blk_at bk_cX7_text_80 10 rfl)
theorem bk_cX7_fault_0 : (cX7_fault.data.toList.drop 0).take 23 = [27, 154, 0, 8, 42, 180, 0, 45, 172, 27, 4, 160, 0, 10, 42, 180, 0, 48, 167, 0, 4, 2, 172] := by decide +kernel
theorem dX7_fault_0 : decode cX7_fault 0 = .ok (.iload_n 1, 1) := dk_27 (blk_at bk_cX7_fault_0 0 rfl)
theorem dX7_fault_1 : decode cX7_fault 1 = .ok (.ifCond .ne 8, 3) := dq_154 bk_cX7_fault_0 1 rfl (by decide)
theorem dX7_fault_4 : decode cX7_fault 4 = .ok (.aload_n 0, 1) := dk_42 (blk_at bk_cX7_fault_0 4 rfl)
theorem dX7_fault_5 : decode cX7_fault 5 = .ok (.getfield 45, 3) := dq_180 bk_cX7_fault_0 5 rfl rfl
theorem dX7_fault_8 : decode cX7_fault 8 = .ok (.ireturn, 1) := dk_172 (blk_at bk_cX7_fault_0 8 rfl)
theorem dX7_fault_9 : decode cX7_fault 9 = .ok (.iload_n 1, 1) := dk_27 (blk_at bk_cX7_fault_0 9 rfl)
theorem dX7_fault_10 : decode cX7_fault 10 = .ok (.iconst 1, 1) := dk_4 (blk_at bk_cX7_fault_0 10 rfl)
theorem dX7_fault_11 : decode cX7_fault 11 = .ok (.if_icmp .ne 10, 3) := dq_160 bk_cX7_fault_0 11 rfl (by decide)
theorem dX7_fault_14 : decode cX7_fault 14 = .ok (.aload_n 0, 1) := dk_42 (blk_at bk_cX7_fault_0 14 rfl)
theorem dX7_fault_15 : decode cX7_fault 15 = .ok (.getfield 48, 3) := dq_180 bk_cX7_fault_0 15 rfl rfl
theorem dX7_fault_18 : decode cX7_fault 18 = .ok (.goto 4, 3) := dq_167 bk_cX7_fault_0 18 rfl (by decide)
theorem dX7_fault_21 : decode cX7_fault 21 = .ok (.iconst (-1), 1) := dk_2 (blk_at bk_cX7_fault_0 21 rfl)
theorem dX7_fault_22 : decode cX7_fault 22 = .ok (.ireturn, 1) := dk_172 (blk_at bk_cX7_fault_0 22 rfl)
theorem dX7_count_1 : decode cX7_count 1 = .ok (.tableswitch 105 0 7 #[47, 55, 63, 71, 79, 87, 95, 100], 47) := by decide +kernel
theorem bk_cX7_count_0 : (cX7_count.data.toList.drop 0).take 1 = [27] := by decide +kernel
theorem dX7_count_0 : decode cX7_count 0 = .ok (.iload_n 1, 1) := dk_27 (blk_at bk_cX7_count_0 0 rfl)
theorem bk_cX7_count_48 : (cX7_count.data.toList.drop 48).take 40 = [42, 180, 0, 20, 180, 0, 91, 172, 42, 180, 0, 27, 180, 0, 94, 172, 42, 180, 0, 20, 180, 0, 97, 172, 42, 180, 0, 20, 180, 0, 100, 172, 42, 180, 0, 20, 180, 0, 103, 172] := by decide +kernel
theorem dX7_count_48 : decode cX7_count 48 = .ok (.aload_n 0, 1) := dk_42 (blk_at bk_cX7_count_48 0 rfl)
theorem dX7_count_49 : decode cX7_count 49 = .ok (.getfield 20, 3) := dq_180 bk_cX7_count_48 1 rfl rfl
theorem dX7_count_52 : decode cX7_count 52 = .ok (.getfield 91, 3) := dq_180 bk_cX7_count_48 4 rfl rfl
theorem dX7_count_55 : decode cX7_count 55 = .ok (.ireturn, 1) := dk_172 (blk_at bk_cX7_count_48 7 rfl)
theorem dX7_count_56 : decode cX7_count 56 = .ok (.aload_n 0, 1) := dk_42 (blk_at bk_cX7_count_48 8 rfl)
theorem dX7_count_57 : decode cX7_count 57 = .ok (.getfield 27, 3) := dq_180 bk_cX7_count_48 9 rfl rfl
theorem dX7_count_60 : decode cX7_count 60 = .ok (.getfield 94, 3) := dq_180 bk_cX7_count_48 12 rfl rfl
theorem dX7_count_63 : decode cX7_count 63 = .ok (.ireturn, 1) := dk_172 (blk_at bk_cX7_count_48 15 rfl)
theorem dX7_count_64 : decode cX7_count 64 = .ok (.aload_n 0, 1) := dk_42 (blk_at bk_cX7_count_48 16 rfl)
theorem dX7_count_65 : decode cX7_count 65 = .ok (.getfield 20, 3) := dq_180 bk_cX7_count_48 17 rfl rfl
theorem dX7_count_68 : decode cX7_count 68 = .ok (.getfield 97, 3) := dq_180 bk_cX7_count_48 20 rfl rfl
theorem dX7_count_71 : decode cX7_count 71 = .ok (.ireturn, 1) := dk_172 (blk_at bk_cX7_count_48 23 rfl)
theorem dX7_count_72 : decode cX7_count 72 = .ok (.aload_n 0, 1) := dk_42 (blk_at bk_cX7_count_48 24 rfl)
theorem dX7_count_73 : decode cX7_count 73 = .ok (.getfield 20, 3) := dq_180 bk_cX7_count_48 25 rfl rfl
theorem dX7_count_76 : decode cX7_count 76 = .ok (.getfield 100, 3) := dq_180 bk_cX7_count_48 28 rfl rfl
theorem dX7_count_79 : decode cX7_count 79 = .ok (.ireturn, 1) := dk_172 (blk_at bk_cX7_count_48 31 rfl)
theorem dX7_count_80 : decode cX7_count 80 = .ok (.aload_n 0, 1) := dk_42 (blk_at bk_cX7_count_48 32 rfl)
theorem dX7_count_81 : decode cX7_count 81 = .ok (.getfield 20, 3) := dq_180 bk_cX7_count_48 33 rfl rfl
theorem dX7_count_84 : decode cX7_count 84 = .ok (.getfield 103, 3) := dq_180 bk_cX7_count_48 36 rfl rfl
theorem dX7_count_87 : decode cX7_count 87 = .ok (.ireturn, 1) := dk_172 (blk_at bk_cX7_count_48 39 rfl)
theorem bk_cX7_count_88 : (cX7_count.data.toList.drop 88).take 20 = [42, 180, 0, 20, 180, 0, 106, 172, 42, 180, 0, 35, 172, 42, 180, 0, 13, 172, 2, 172] := by decide +kernel
theorem dX7_count_88 : decode cX7_count 88 = .ok (.aload_n 0, 1) := dk_42 (blk_at bk_cX7_count_88 0 rfl)
theorem dX7_count_89 : decode cX7_count 89 = .ok (.getfield 20, 3) := dq_180 bk_cX7_count_88 1 rfl rfl
theorem dX7_count_92 : decode cX7_count 92 = .ok (.getfield 106, 3) := dq_180 bk_cX7_count_88 4 rfl rfl
theorem dX7_count_95 : decode cX7_count 95 = .ok (.ireturn, 1) := dk_172 (blk_at bk_cX7_count_88 7 rfl)
theorem dX7_count_96 : decode cX7_count 96 = .ok (.aload_n 0, 1) := dk_42 (blk_at bk_cX7_count_88 8 rfl)
theorem dX7_count_97 : decode cX7_count 97 = .ok (.getfield 35, 3) := dq_180 bk_cX7_count_88 9 rfl rfl
theorem dX7_count_100 : decode cX7_count 100 = .ok (.ireturn, 1) := dk_172 (blk_at bk_cX7_count_88 12 rfl)
theorem dX7_count_101 : decode cX7_count 101 = .ok (.aload_n 0, 1) := dk_42 (blk_at bk_cX7_count_88 13 rfl)
theorem dX7_count_102 : decode cX7_count 102 = .ok (.getfield 13, 3) := dq_180 bk_cX7_count_88 14 rfl rfl
theorem dX7_count_105 : decode cX7_count 105 = .ok (.ireturn, 1) := dk_172 (blk_at bk_cX7_count_88 17 rfl)
theorem dX7_count_106 : decode cX7_count 106 = .ok (.iconst (-1), 1) := dk_2 (blk_at bk_cX7_count_88 18 rfl)
theorem dX7_count_107 : decode cX7_count 107 = .ok (.ireturn, 1) := dk_172 (blk_at bk_cX7_count_88 19 rfl)
theorem bk_cX7_letter_0 : (cX7_letter.data.toList.drop 0).take 30 = [42, 27, 182, 0, 109, 153, 0, 12, 28, 3, 8, 184, 0, 113, 154, 0, 6, 16, 254, 172, 42, 180, 0, 27, 27, 28, 182, 0, 117, 172] := by decide +kernel
theorem dX7_letter_0 : decode cX7_letter 0 = .ok (.aload_n 0, 1) := dk_42 (blk_at bk_cX7_letter_0 0 rfl)
theorem dX7_letter_1 : decode cX7_letter 1 = .ok (.iload_n 1, 1) := dk_27 (blk_at bk_cX7_letter_0 1 rfl)
theorem dX7_letter_2 : decode cX7_letter 2 = .ok (.invokevirtual 109, 3) := dq_182 bk_cX7_letter_0 2 rfl rfl
theorem dX7_letter_5 : decode cX7_letter 5 = .ok (.ifCond .eq 12, 3) := dq_153 bk_cX7_letter_0 5 rfl (by decide)
theorem dX7_letter_8 : decode cX7_letter 8 = .ok (.iload_n 2, 1) := dk_28 (blk_at bk_cX7_letter_0 8 rfl)
theorem dX7_letter_9 : decode cX7_letter 9 = .ok (.iconst 0, 1) := dk_3 (blk_at bk_cX7_letter_0 9 rfl)
theorem dX7_letter_10 : decode cX7_letter 10 = .ok (.iconst 5, 1) := dk_8 (blk_at bk_cX7_letter_0 10 rfl)
theorem dX7_letter_11 : decode cX7_letter 11 = .ok (.invokestatic 113, 3) := dq_184 bk_cX7_letter_0 11 rfl rfl
theorem dX7_letter_14 : decode cX7_letter 14 = .ok (.ifCond .ne 6, 3) := dq_154 bk_cX7_letter_0 14 rfl (by decide)
theorem dX7_letter_17 : decode cX7_letter 17 = .ok (.bipush (-2), 2) := dq_16 bk_cX7_letter_0 17 rfl (by decide)
theorem dX7_letter_19 : decode cX7_letter 19 = .ok (.ireturn, 1) := dk_172 (blk_at bk_cX7_letter_0 19 rfl)
theorem dX7_letter_20 : decode cX7_letter 20 = .ok (.aload_n 0, 1) := dk_42 (blk_at bk_cX7_letter_0 20 rfl)
theorem dX7_letter_21 : decode cX7_letter 21 = .ok (.getfield 27, 3) := dq_180 bk_cX7_letter_0 21 rfl rfl
theorem dX7_letter_24 : decode cX7_letter 24 = .ok (.iload_n 1, 1) := dk_27 (blk_at bk_cX7_letter_0 24 rfl)
theorem dX7_letter_25 : decode cX7_letter 25 = .ok (.iload_n 2, 1) := dk_28 (blk_at bk_cX7_letter_0 25 rfl)
theorem dX7_letter_26 : decode cX7_letter 26 = .ok (.invokevirtual 117, 3) := dq_182 bk_cX7_letter_0 26 rfl rfl
theorem dX7_letter_29 : decode cX7_letter 29 = .ok (.ireturn, 1) := dk_172 (blk_at bk_cX7_letter_0 29 rfl)
theorem bk_cX7_find_0 : (cX7_find.data.toList.drop 0).take 38 = [42, 180, 0, 13, 60, 42, 3, 181, 0, 13, 42, 182, 0, 121, 153, 0, 13, 27, 4, 16, 6, 184, 0, 113, 154, 0, 6, 16, 254, 172, 3, 61, 28, 27, 162, 0, 24, 42] := by decide +kernel
theorem dX7_find_0 : decode cX7_find 0 = .ok (.aload_n 0, 1) := dk_42 (blk_at bk_cX7_find_0 0 rfl)
theorem dX7_find_1 : decode cX7_find 1 = .ok (.getfield 13, 3) := dq_180 bk_cX7_find_0 1 rfl rfl
theorem dX7_find_4 : decode cX7_find 4 = .ok (.istore_n 1, 1) := dk_60 (blk_at bk_cX7_find_0 4 rfl)
theorem dX7_find_5 : decode cX7_find 5 = .ok (.aload_n 0, 1) := dk_42 (blk_at bk_cX7_find_0 5 rfl)
theorem dX7_find_6 : decode cX7_find 6 = .ok (.iconst 0, 1) := dk_3 (blk_at bk_cX7_find_0 6 rfl)
theorem dX7_find_7 : decode cX7_find 7 = .ok (.putfield 13, 3) := dq_181 bk_cX7_find_0 7 rfl rfl
theorem dX7_find_10 : decode cX7_find 10 = .ok (.aload_n 0, 1) := dk_42 (blk_at bk_cX7_find_0 10 rfl)
theorem dX7_find_11 : decode cX7_find 11 = .ok (.invokevirtual 121, 3) := dq_182 bk_cX7_find_0 11 rfl rfl
theorem dX7_find_14 : decode cX7_find 14 = .ok (.ifCond .eq 13, 3) := dq_153 bk_cX7_find_0 14 rfl (by decide)
theorem dX7_find_17 : decode cX7_find 17 = .ok (.iload_n 1, 1) := dk_27 (blk_at bk_cX7_find_0 17 rfl)
theorem dX7_find_18 : decode cX7_find 18 = .ok (.iconst 1, 1) := dk_4 (blk_at bk_cX7_find_0 18 rfl)
theorem dX7_find_19 : decode cX7_find 19 = .ok (.bipush 6, 2) := dq_16 bk_cX7_find_0 19 rfl (by decide)
theorem dX7_find_21 : decode cX7_find 21 = .ok (.invokestatic 113, 3) := dq_184 bk_cX7_find_0 21 rfl rfl
theorem dX7_find_24 : decode cX7_find 24 = .ok (.ifCond .ne 6, 3) := dq_154 bk_cX7_find_0 24 rfl (by decide)
theorem dX7_find_27 : decode cX7_find 27 = .ok (.bipush (-2), 2) := dq_16 bk_cX7_find_0 27 rfl (by decide)
theorem dX7_find_29 : decode cX7_find 29 = .ok (.ireturn, 1) := dk_172 (blk_at bk_cX7_find_0 29 rfl)
theorem dX7_find_30 : decode cX7_find 30 = .ok (.iconst 0, 1) := dk_3 (blk_at bk_cX7_find_0 30 rfl)
theorem dX7_find_31 : decode cX7_find 31 = .ok (.istore_n 2, 1) := dk_61 (blk_at bk_cX7_find_0 31 rfl)
theorem dX7_find_32 : decode cX7_find 32 = .ok (.iload_n 2, 1) := dk_28 (blk_at bk_cX7_find_0 32 rfl)
theorem dX7_find_33 : decode cX7_find 33 = .ok (.iload_n 1, 1) := dk_27 (blk_at bk_cX7_find_0 33 rfl)
theorem dX7_find_34 : decode cX7_find 34 = .ok (.if_icmp .ge 24, 3) := dq_162 bk_cX7_find_0 34 rfl (by decide)
theorem dX7_find_37 : decode cX7_find 37 = .ok (.aload_n 0, 1) := dk_42 (blk_at bk_cX7_find_0 37 rfl)
theorem bk_cX7_find_38 : (cX7_find.data.toList.drop 38).take 34 = [180, 0, 9, 28, 51, 184, 0, 125, 154, 0, 6, 16, 254, 172, 132, 2, 1, 167, 255, 233, 42, 180, 0, 27, 42, 180, 0, 9, 3, 27, 182, 0, 128, 172] := by decide +kernel
theorem dX7_find_38 : decode cX7_find 38 = .ok (.getfield 9, 3) := dq_180 bk_cX7_find_38 0 rfl rfl
theorem dX7_find_41 : decode cX7_find 41 = .ok (.iload_n 2, 1) := dk_28 (blk_at bk_cX7_find_38 3 rfl)
theorem dX7_find_42 : decode cX7_find 42 = .ok (.baload, 1) := dk_51 (blk_at bk_cX7_find_38 4 rfl)
theorem dX7_find_43 : decode cX7_find 43 = .ok (.invokestatic 125, 3) := dq_184 bk_cX7_find_38 5 rfl rfl
theorem dX7_find_46 : decode cX7_find 46 = .ok (.ifCond .ne 6, 3) := dq_154 bk_cX7_find_38 8 rfl (by decide)
theorem dX7_find_49 : decode cX7_find 49 = .ok (.bipush (-2), 2) := dq_16 bk_cX7_find_38 11 rfl (by decide)
theorem dX7_find_51 : decode cX7_find 51 = .ok (.ireturn, 1) := dk_172 (blk_at bk_cX7_find_38 13 rfl)
theorem dX7_find_52 : decode cX7_find 52 = .ok (.iinc 2 1, 3) := dq_132 bk_cX7_find_38 14 rfl rfl (by decide)
theorem dX7_find_55 : decode cX7_find 55 = .ok (.goto (-23), 3) := dq_167 bk_cX7_find_38 17 rfl (by decide)
theorem dX7_find_58 : decode cX7_find 58 = .ok (.aload_n 0, 1) := dk_42 (blk_at bk_cX7_find_38 20 rfl)
theorem dX7_find_59 : decode cX7_find 59 = .ok (.getfield 27, 3) := dq_180 bk_cX7_find_38 21 rfl rfl
theorem dX7_find_62 : decode cX7_find 62 = .ok (.aload_n 0, 1) := dk_42 (blk_at bk_cX7_find_38 24 rfl)
theorem dX7_find_63 : decode cX7_find 63 = .ok (.getfield 9, 3) := dq_180 bk_cX7_find_38 25 rfl rfl
theorem dX7_find_66 : decode cX7_find 66 = .ok (.iconst 0, 1) := dk_3 (blk_at bk_cX7_find_38 28 rfl)
theorem dX7_find_67 : decode cX7_find 67 = .ok (.iload_n 1, 1) := dk_27 (blk_at bk_cX7_find_38 29 rfl)
theorem dX7_find_68 : decode cX7_find 68 = .ok (.invokevirtual 128, 3) := dq_182 bk_cX7_find_38 30 rfl rfl
theorem dX7_find_71 : decode cX7_find 71 = .ok (.ireturn, 1) := dk_172 (blk_at bk_cX7_find_38 33 rfl)
theorem dX7_series_22 : decode cX7_series 22 = .ok (.tableswitch 76 0 5 #[38, 43, 48, 53, 58, 71], 38) := by decide +kernel
theorem bk_cX7_series_0 : (cX7_series.data.toList.drop 0).take 22 = [42, 27, 182, 0, 132, 154, 0, 6, 16, 254, 172, 42, 180, 0, 20, 180, 0, 135, 27, 50, 78, 28] := by decide +kernel
theorem dX7_series_0 : decode cX7_series 0 = .ok (.aload_n 0, 1) := dk_42 (blk_at bk_cX7_series_0 0 rfl)
theorem dX7_series_1 : decode cX7_series 1 = .ok (.iload_n 1, 1) := dk_27 (blk_at bk_cX7_series_0 1 rfl)
theorem dX7_series_2 : decode cX7_series 2 = .ok (.invokevirtual 132, 3) := dq_182 bk_cX7_series_0 2 rfl rfl
theorem dX7_series_5 : decode cX7_series 5 = .ok (.ifCond .ne 6, 3) := dq_154 bk_cX7_series_0 5 rfl (by decide)
theorem dX7_series_8 : decode cX7_series 8 = .ok (.bipush (-2), 2) := dq_16 bk_cX7_series_0 8 rfl (by decide)
theorem dX7_series_10 : decode cX7_series 10 = .ok (.ireturn, 1) := dk_172 (blk_at bk_cX7_series_0 10 rfl)
theorem dX7_series_11 : decode cX7_series 11 = .ok (.aload_n 0, 1) := dk_42 (blk_at bk_cX7_series_0 11 rfl)
theorem dX7_series_12 : decode cX7_series 12 = .ok (.getfield 20, 3) := dq_180 bk_cX7_series_0 12 rfl rfl
theorem dX7_series_15 : decode cX7_series 15 = .ok (.getfield 135, 3) := dq_180 bk_cX7_series_0 15 rfl rfl
theorem dX7_series_18 : decode cX7_series 18 = .ok (.iload_n 1, 1) := dk_27 (blk_at bk_cX7_series_0 18 rfl)
theorem dX7_series_19 : decode cX7_series 19 = .ok (.aaload, 1) := dk_50 (blk_at bk_cX7_series_0 19 rfl)
theorem dX7_series_20 : decode cX7_series 20 = .ok (.astore_n 3, 1) := dk_78 (blk_at bk_cX7_series_0 20 rfl)
theorem dX7_series_21 : decode cX7_series 21 = .ok (.iload_n 2, 1) := dk_28 (blk_at bk_cX7_series_0 21 rfl)
theorem bk_cX7_series_60 : (cX7_series.data.toList.drop 60).take 40 = [45, 180, 0, 139, 172, 45, 180, 0, 144, 172, 45, 180, 0, 147, 172, 45, 180, 0, 150, 172, 45, 180, 0, 153, 153, 0, 7, 4, 167, 0, 4, 3, 172, 45, 180, 0, 157, 172, 16, 254] := by decide +kernel
theorem dX7_series_60 : decode cX7_series 60 = .ok (.aload_n 3, 1) := dk_45 (blk_at bk_cX7_series_60 0 rfl)
theorem dX7_series_61 : decode cX7_series 61 = .ok (.getfield 139, 3) := dq_180 bk_cX7_series_60 1 rfl rfl
theorem dX7_series_64 : decode cX7_series 64 = .ok (.ireturn, 1) := dk_172 (blk_at bk_cX7_series_60 4 rfl)
theorem dX7_series_65 : decode cX7_series 65 = .ok (.aload_n 3, 1) := dk_45 (blk_at bk_cX7_series_60 5 rfl)
theorem dX7_series_66 : decode cX7_series 66 = .ok (.getfield 144, 3) := dq_180 bk_cX7_series_60 6 rfl rfl
theorem dX7_series_69 : decode cX7_series 69 = .ok (.ireturn, 1) := dk_172 (blk_at bk_cX7_series_60 9 rfl)
theorem dX7_series_70 : decode cX7_series 70 = .ok (.aload_n 3, 1) := dk_45 (blk_at bk_cX7_series_60 10 rfl)
theorem dX7_series_71 : decode cX7_series 71 = .ok (.getfield 147, 3) := dq_180 bk_cX7_series_60 11 rfl rfl
theorem dX7_series_74 : decode cX7_series 74 = .ok (.ireturn, 1) := dk_172 (blk_at bk_cX7_series_60 14 rfl)
theorem dX7_series_75 : decode cX7_series 75 = .ok (.aload_n 3, 1) := dk_45 (blk_at bk_cX7_series_60 15 rfl)
theorem dX7_series_76 : decode cX7_series 76 = .ok (.getfield 150, 3) := dq_180 bk_cX7_series_60 16 rfl rfl
theorem dX7_series_79 : decode cX7_series 79 = .ok (.ireturn, 1) := dk_172 (blk_at bk_cX7_series_60 19 rfl)
theorem dX7_series_80 : decode cX7_series 80 = .ok (.aload_n 3, 1) := dk_45 (blk_at bk_cX7_series_60 20 rfl)
theorem dX7_series_81 : decode cX7_series 81 = .ok (.getfield 153, 3) := dq_180 bk_cX7_series_60 21 rfl rfl
theorem dX7_series_84 : decode cX7_series 84 = .ok (.ifCond .eq 7, 3) := dq_153 bk_cX7_series_60 24 rfl (by decide)
theorem dX7_series_87 : decode cX7_series 87 = .ok (.iconst 1, 1) := dk_4 (blk_at bk_cX7_series_60 27 rfl)
theorem dX7_series_88 : decode cX7_series 88 = .ok (.goto 4, 3) := dq_167 bk_cX7_series_60 28 rfl (by decide)
theorem dX7_series_91 : decode cX7_series 91 = .ok (.iconst 0, 1) := dk_3 (blk_at bk_cX7_series_60 31 rfl)
theorem dX7_series_92 : decode cX7_series 92 = .ok (.ireturn, 1) := dk_172 (blk_at bk_cX7_series_60 32 rfl)
theorem dX7_series_93 : decode cX7_series 93 = .ok (.aload_n 3, 1) := dk_45 (blk_at bk_cX7_series_60 33 rfl)
theorem dX7_series_94 : decode cX7_series 94 = .ok (.getfield 157, 3) := dq_180 bk_cX7_series_60 34 rfl rfl
theorem dX7_series_97 : decode cX7_series 97 = .ok (.ireturn, 1) := dk_172 (blk_at bk_cX7_series_60 37 rfl)
theorem dX7_series_98 : decode cX7_series 98 = .ok (.bipush (-2), 2) := dq_16 bk_cX7_series_60 38 rfl (by decide)
theorem bk_cX7_series_100 : (cX7_series.data.toList.drop 100).take 1 = [172] := by decide +kernel
theorem dX7_series_100 : decode cX7_series 100 = .ok (.ireturn, 1) := dk_172 (blk_at bk_cX7_series_100 0 rfl)
theorem bk_cX7_weeks_0 : (cX7_weeks.data.toList.drop 0).take 32 = [42, 27, 182, 0, 132, 153, 0, 10, 28, 184, 0, 160, 154, 0, 6, 16, 254, 172, 42, 180, 0, 20, 180, 0, 135, 27, 50, 28, 182, 0, 163, 172] := by decide +kernel
theorem dX7_weeks_0 : decode cX7_weeks 0 = .ok (.aload_n 0, 1) := dk_42 (blk_at bk_cX7_weeks_0 0 rfl)
theorem dX7_weeks_1 : decode cX7_weeks 1 = .ok (.iload_n 1, 1) := dk_27 (blk_at bk_cX7_weeks_0 1 rfl)
theorem dX7_weeks_2 : decode cX7_weeks 2 = .ok (.invokevirtual 132, 3) := dq_182 bk_cX7_weeks_0 2 rfl rfl
theorem dX7_weeks_5 : decode cX7_weeks 5 = .ok (.ifCond .eq 10, 3) := dq_153 bk_cX7_weeks_0 5 rfl (by decide)
theorem dX7_weeks_8 : decode cX7_weeks 8 = .ok (.iload_n 2, 1) := dk_28 (blk_at bk_cX7_weeks_0 8 rfl)
theorem dX7_weeks_9 : decode cX7_weeks 9 = .ok (.invokestatic 160, 3) := dq_184 bk_cX7_weeks_0 9 rfl rfl
theorem dX7_weeks_12 : decode cX7_weeks 12 = .ok (.ifCond .ne 6, 3) := dq_154 bk_cX7_weeks_0 12 rfl (by decide)
theorem dX7_weeks_15 : decode cX7_weeks 15 = .ok (.bipush (-2), 2) := dq_16 bk_cX7_weeks_0 15 rfl (by decide)
theorem dX7_weeks_17 : decode cX7_weeks 17 = .ok (.ireturn, 1) := dk_172 (blk_at bk_cX7_weeks_0 17 rfl)
theorem dX7_weeks_18 : decode cX7_weeks 18 = .ok (.aload_n 0, 1) := dk_42 (blk_at bk_cX7_weeks_0 18 rfl)
theorem dX7_weeks_19 : decode cX7_weeks 19 = .ok (.getfield 20, 3) := dq_180 bk_cX7_weeks_0 19 rfl rfl
theorem dX7_weeks_22 : decode cX7_weeks 22 = .ok (.getfield 135, 3) := dq_180 bk_cX7_weeks_0 22 rfl rfl
theorem dX7_weeks_25 : decode cX7_weeks 25 = .ok (.iload_n 1, 1) := dk_27 (blk_at bk_cX7_weeks_0 25 rfl)
theorem dX7_weeks_26 : decode cX7_weeks 26 = .ok (.aaload, 1) := dk_50 (blk_at bk_cX7_weeks_0 26 rfl)
theorem dX7_weeks_27 : decode cX7_weeks 27 = .ok (.iload_n 2, 1) := dk_28 (blk_at bk_cX7_weeks_0 27 rfl)
theorem dX7_weeks_28 : decode cX7_weeks 28 = .ok (.invokevirtual 163, 3) := dq_182 bk_cX7_weeks_0 28 rfl rfl
theorem dX7_weeks_31 : decode cX7_weeks 31 = .ok (.ireturn, 1) := dk_172 (blk_at bk_cX7_weeks_0 31 rfl)
theorem bk_cX7_week_0 : (cX7_week.data.toList.drop 0).take 33 = [42, 27, 182, 0, 132, 153, 0, 11, 42, 28, 182, 0, 167, 154, 0, 6, 16, 254, 172, 42, 180, 0, 20, 180, 0, 135, 27, 50, 28, 182, 0, 170, 172] := by decide +kernel
theorem dX7_week_0 : decode cX7_week 0 = .ok (.aload_n 0, 1) := dk_42 (blk_at bk_cX7_week_0 0 rfl)
theorem dX7_week_1 : decode cX7_week 1 = .ok (.iload_n 1, 1) := dk_27 (blk_at bk_cX7_week_0 1 rfl)
theorem dX7_week_2 : decode cX7_week 2 = .ok (.invokevirtual 132, 3) := dq_182 bk_cX7_week_0 2 rfl rfl
theorem dX7_week_5 : decode cX7_week 5 = .ok (.ifCond .eq 11, 3) := dq_153 bk_cX7_week_0 5 rfl (by decide)
theorem dX7_week_8 : decode cX7_week 8 = .ok (.aload_n 0, 1) := dk_42 (blk_at bk_cX7_week_0 8 rfl)
theorem dX7_week_9 : decode cX7_week 9 = .ok (.iload_n 2, 1) := dk_28 (blk_at bk_cX7_week_0 9 rfl)
theorem dX7_week_10 : decode cX7_week 10 = .ok (.invokevirtual 167, 3) := dq_182 bk_cX7_week_0 10 rfl rfl
theorem dX7_week_13 : decode cX7_week 13 = .ok (.ifCond .ne 6, 3) := dq_154 bk_cX7_week_0 13 rfl (by decide)
theorem dX7_week_16 : decode cX7_week 16 = .ok (.bipush (-2), 2) := dq_16 bk_cX7_week_0 16 rfl (by decide)
theorem dX7_week_18 : decode cX7_week 18 = .ok (.ireturn, 1) := dk_172 (blk_at bk_cX7_week_0 18 rfl)
theorem dX7_week_19 : decode cX7_week 19 = .ok (.aload_n 0, 1) := dk_42 (blk_at bk_cX7_week_0 19 rfl)
theorem dX7_week_20 : decode cX7_week 20 = .ok (.getfield 20, 3) := dq_180 bk_cX7_week_0 20 rfl rfl
theorem dX7_week_23 : decode cX7_week 23 = .ok (.getfield 135, 3) := dq_180 bk_cX7_week_0 23 rfl rfl
theorem dX7_week_26 : decode cX7_week 26 = .ok (.iload_n 1, 1) := dk_27 (blk_at bk_cX7_week_0 26 rfl)
theorem dX7_week_27 : decode cX7_week 27 = .ok (.aaload, 1) := dk_50 (blk_at bk_cX7_week_0 27 rfl)
theorem dX7_week_28 : decode cX7_week 28 = .ok (.iload_n 2, 1) := dk_28 (blk_at bk_cX7_week_0 28 rfl)
theorem dX7_week_29 : decode cX7_week 29 = .ok (.invokevirtual 170, 3) := dq_182 bk_cX7_week_0 29 rfl rfl
theorem dX7_week_32 : decode cX7_week 32 = .ok (.ireturn, 1) := dk_172 (blk_at bk_cX7_week_0 32 rfl)
theorem dX7_asked_22 : decode cX7_asked 22 = .ok (.tableswitch 77 0 6 #[42, 47, 52, 57, 62, 67, 72], 42) := by decide +kernel
theorem bk_cX7_asked_0 : (cX7_asked.data.toList.drop 0).take 22 = [42, 27, 182, 0, 173, 154, 0, 6, 16, 254, 172, 42, 180, 0, 20, 180, 0, 176, 27, 50, 78, 28] := by decide +kernel
theorem dX7_asked_0 : decode cX7_asked 0 = .ok (.aload_n 0, 1) := dk_42 (blk_at bk_cX7_asked_0 0 rfl)
theorem dX7_asked_1 : decode cX7_asked 1 = .ok (.iload_n 1, 1) := dk_27 (blk_at bk_cX7_asked_0 1 rfl)
theorem dX7_asked_2 : decode cX7_asked 2 = .ok (.invokevirtual 173, 3) := dq_182 bk_cX7_asked_0 2 rfl rfl
theorem dX7_asked_5 : decode cX7_asked 5 = .ok (.ifCond .ne 6, 3) := dq_154 bk_cX7_asked_0 5 rfl (by decide)
theorem dX7_asked_8 : decode cX7_asked 8 = .ok (.bipush (-2), 2) := dq_16 bk_cX7_asked_0 8 rfl (by decide)
theorem dX7_asked_10 : decode cX7_asked 10 = .ok (.ireturn, 1) := dk_172 (blk_at bk_cX7_asked_0 10 rfl)
theorem dX7_asked_11 : decode cX7_asked 11 = .ok (.aload_n 0, 1) := dk_42 (blk_at bk_cX7_asked_0 11 rfl)
theorem dX7_asked_12 : decode cX7_asked 12 = .ok (.getfield 20, 3) := dq_180 bk_cX7_asked_0 12 rfl rfl
theorem dX7_asked_15 : decode cX7_asked 15 = .ok (.getfield 176, 3) := dq_180 bk_cX7_asked_0 15 rfl rfl
theorem dX7_asked_18 : decode cX7_asked 18 = .ok (.iload_n 1, 1) := dk_27 (blk_at bk_cX7_asked_0 18 rfl)
theorem dX7_asked_19 : decode cX7_asked 19 = .ok (.aaload, 1) := dk_50 (blk_at bk_cX7_asked_0 19 rfl)
theorem dX7_asked_20 : decode cX7_asked 20 = .ok (.astore_n 3, 1) := dk_78 (blk_at bk_cX7_asked_0 20 rfl)
theorem dX7_asked_21 : decode cX7_asked 21 = .ok (.iload_n 2, 1) := dk_28 (blk_at bk_cX7_asked_0 21 rfl)
theorem bk_cX7_asked_64 : (cX7_asked.data.toList.drop 64).take 38 = [45, 180, 0, 180, 172, 45, 180, 0, 183, 172, 45, 180, 0, 184, 172, 45, 180, 0, 185, 172, 45, 180, 0, 186, 172, 45, 180, 0, 189, 172, 45, 180, 0, 192, 172, 16, 254, 172] := by decide +kernel
theorem dX7_asked_64 : decode cX7_asked 64 = .ok (.aload_n 3, 1) := dk_45 (blk_at bk_cX7_asked_64 0 rfl)
theorem dX7_asked_65 : decode cX7_asked 65 = .ok (.getfield 180, 3) := dq_180 bk_cX7_asked_64 1 rfl rfl
theorem dX7_asked_68 : decode cX7_asked 68 = .ok (.ireturn, 1) := dk_172 (blk_at bk_cX7_asked_64 4 rfl)
theorem dX7_asked_69 : decode cX7_asked 69 = .ok (.aload_n 3, 1) := dk_45 (blk_at bk_cX7_asked_64 5 rfl)
theorem dX7_asked_70 : decode cX7_asked 70 = .ok (.getfield 183, 3) := dq_180 bk_cX7_asked_64 6 rfl rfl
theorem dX7_asked_73 : decode cX7_asked 73 = .ok (.ireturn, 1) := dk_172 (blk_at bk_cX7_asked_64 9 rfl)
theorem dX7_asked_74 : decode cX7_asked 74 = .ok (.aload_n 3, 1) := dk_45 (blk_at bk_cX7_asked_64 10 rfl)
theorem dX7_asked_75 : decode cX7_asked 75 = .ok (.getfield 184, 3) := dq_180 bk_cX7_asked_64 11 rfl rfl
theorem dX7_asked_78 : decode cX7_asked 78 = .ok (.ireturn, 1) := dk_172 (blk_at bk_cX7_asked_64 14 rfl)
theorem dX7_asked_79 : decode cX7_asked 79 = .ok (.aload_n 3, 1) := dk_45 (blk_at bk_cX7_asked_64 15 rfl)
theorem dX7_asked_80 : decode cX7_asked 80 = .ok (.getfield 185, 3) := dq_180 bk_cX7_asked_64 16 rfl rfl
theorem dX7_asked_83 : decode cX7_asked 83 = .ok (.ireturn, 1) := dk_172 (blk_at bk_cX7_asked_64 19 rfl)
theorem dX7_asked_84 : decode cX7_asked 84 = .ok (.aload_n 3, 1) := dk_45 (blk_at bk_cX7_asked_64 20 rfl)
theorem dX7_asked_85 : decode cX7_asked 85 = .ok (.getfield 186, 3) := dq_180 bk_cX7_asked_64 21 rfl rfl
theorem dX7_asked_88 : decode cX7_asked 88 = .ok (.ireturn, 1) := dk_172 (blk_at bk_cX7_asked_64 24 rfl)
theorem dX7_asked_89 : decode cX7_asked 89 = .ok (.aload_n 3, 1) := dk_45 (blk_at bk_cX7_asked_64 25 rfl)
theorem dX7_asked_90 : decode cX7_asked 90 = .ok (.getfield 189, 3) := dq_180 bk_cX7_asked_64 26 rfl rfl
theorem dX7_asked_93 : decode cX7_asked 93 = .ok (.ireturn, 1) := dk_172 (blk_at bk_cX7_asked_64 29 rfl)
theorem dX7_asked_94 : decode cX7_asked 94 = .ok (.aload_n 3, 1) := dk_45 (blk_at bk_cX7_asked_64 30 rfl)
theorem dX7_asked_95 : decode cX7_asked 95 = .ok (.getfield 192, 3) := dq_180 bk_cX7_asked_64 31 rfl rfl
theorem dX7_asked_98 : decode cX7_asked 98 = .ok (.ireturn, 1) := dk_172 (blk_at bk_cX7_asked_64 34 rfl)
theorem dX7_asked_99 : decode cX7_asked 99 = .ok (.bipush (-2), 2) := dq_16 bk_cX7_asked_64 35 rfl (by decide)
theorem dX7_asked_101 : decode cX7_asked 101 = .ok (.ireturn, 1) := dk_172 (blk_at bk_cX7_asked_64 37 rfl)
theorem bk_cX7_limitOf_0 : (cX7_limitOf.data.toList.drop 0).take 40 = [42, 27, 182, 0, 195, 153, 0, 12, 28, 3, 4, 184, 0, 113, 154, 0, 6, 16, 254, 172, 28, 154, 0, 15, 42, 180, 0, 20, 180, 0, 198, 27, 46, 167, 0, 12, 42, 180, 0, 20] := by decide +kernel
theorem dX7_limitOf_0 : decode cX7_limitOf 0 = .ok (.aload_n 0, 1) := dk_42 (blk_at bk_cX7_limitOf_0 0 rfl)
theorem dX7_limitOf_1 : decode cX7_limitOf 1 = .ok (.iload_n 1, 1) := dk_27 (blk_at bk_cX7_limitOf_0 1 rfl)
theorem dX7_limitOf_2 : decode cX7_limitOf 2 = .ok (.invokevirtual 195, 3) := dq_182 bk_cX7_limitOf_0 2 rfl rfl
theorem dX7_limitOf_5 : decode cX7_limitOf 5 = .ok (.ifCond .eq 12, 3) := dq_153 bk_cX7_limitOf_0 5 rfl (by decide)
theorem dX7_limitOf_8 : decode cX7_limitOf 8 = .ok (.iload_n 2, 1) := dk_28 (blk_at bk_cX7_limitOf_0 8 rfl)
theorem dX7_limitOf_9 : decode cX7_limitOf 9 = .ok (.iconst 0, 1) := dk_3 (blk_at bk_cX7_limitOf_0 9 rfl)
theorem dX7_limitOf_10 : decode cX7_limitOf 10 = .ok (.iconst 1, 1) := dk_4 (blk_at bk_cX7_limitOf_0 10 rfl)
theorem dX7_limitOf_11 : decode cX7_limitOf 11 = .ok (.invokestatic 113, 3) := dq_184 bk_cX7_limitOf_0 11 rfl rfl
theorem dX7_limitOf_14 : decode cX7_limitOf 14 = .ok (.ifCond .ne 6, 3) := dq_154 bk_cX7_limitOf_0 14 rfl (by decide)
theorem dX7_limitOf_17 : decode cX7_limitOf 17 = .ok (.bipush (-2), 2) := dq_16 bk_cX7_limitOf_0 17 rfl (by decide)
theorem dX7_limitOf_19 : decode cX7_limitOf 19 = .ok (.ireturn, 1) := dk_172 (blk_at bk_cX7_limitOf_0 19 rfl)
theorem dX7_limitOf_20 : decode cX7_limitOf 20 = .ok (.iload_n 2, 1) := dk_28 (blk_at bk_cX7_limitOf_0 20 rfl)
theorem dX7_limitOf_21 : decode cX7_limitOf 21 = .ok (.ifCond .ne 15, 3) := dq_154 bk_cX7_limitOf_0 21 rfl (by decide)
theorem dX7_limitOf_24 : decode cX7_limitOf 24 = .ok (.aload_n 0, 1) := dk_42 (blk_at bk_cX7_limitOf_0 24 rfl)
theorem dX7_limitOf_25 : decode cX7_limitOf 25 = .ok (.getfield 20, 3) := dq_180 bk_cX7_limitOf_0 25 rfl rfl
theorem dX7_limitOf_28 : decode cX7_limitOf 28 = .ok (.getfield 198, 3) := dq_180 bk_cX7_limitOf_0 28 rfl rfl
theorem dX7_limitOf_31 : decode cX7_limitOf 31 = .ok (.iload_n 1, 1) := dk_27 (blk_at bk_cX7_limitOf_0 31 rfl)
theorem dX7_limitOf_32 : decode cX7_limitOf 32 = .ok (.iaload, 1) := dk_46 (blk_at bk_cX7_limitOf_0 32 rfl)
theorem dX7_limitOf_33 : decode cX7_limitOf 33 = .ok (.goto 12, 3) := dq_167 bk_cX7_limitOf_0 33 rfl (by decide)
theorem dX7_limitOf_36 : decode cX7_limitOf 36 = .ok (.aload_n 0, 1) := dk_42 (blk_at bk_cX7_limitOf_0 36 rfl)
theorem dX7_limitOf_37 : decode cX7_limitOf 37 = .ok (.getfield 20, 3) := dq_180 bk_cX7_limitOf_0 37 rfl rfl
theorem bk_cX7_limitOf_40 : (cX7_limitOf.data.toList.drop 40).take 6 = [180, 0, 202, 27, 46, 172] := by decide +kernel
theorem dX7_limitOf_40 : decode cX7_limitOf 40 = .ok (.getfield 202, 3) := dq_180 bk_cX7_limitOf_40 0 rfl rfl
theorem dX7_limitOf_43 : decode cX7_limitOf 43 = .ok (.iload_n 1, 1) := dk_27 (blk_at bk_cX7_limitOf_40 3 rfl)
theorem dX7_limitOf_44 : decode cX7_limitOf 44 = .ok (.iaload, 1) := dk_46 (blk_at bk_cX7_limitOf_40 4 rfl)
theorem dX7_limitOf_45 : decode cX7_limitOf 45 = .ok (.ireturn, 1) := dk_172 (blk_at bk_cX7_limitOf_40 5 rfl)
theorem bk_cX7_load_0 : (cX7_load.data.toList.drop 0).take 40 = [42, 27, 28, 29, 182, 0, 205, 153, 0, 13, 21, 4, 3, 5, 184, 0, 113, 154, 0, 6, 16, 254, 172, 21, 4, 154, 0, 14, 42, 180, 0, 20, 27, 28, 29, 182, 0, 208, 172, 42] := by decide +kernel
theorem dX7_load_0 : decode cX7_load 0 = .ok (.aload_n 0, 1) := dk_42 (blk_at bk_cX7_load_0 0 rfl)
theorem dX7_load_1 : decode cX7_load 1 = .ok (.iload_n 1, 1) := dk_27 (blk_at bk_cX7_load_0 1 rfl)
theorem dX7_load_2 : decode cX7_load 2 = .ok (.iload_n 2, 1) := dk_28 (blk_at bk_cX7_load_0 2 rfl)
theorem dX7_load_3 : decode cX7_load 3 = .ok (.iload_n 3, 1) := dk_29 (blk_at bk_cX7_load_0 3 rfl)
theorem dX7_load_4 : decode cX7_load 4 = .ok (.invokevirtual 205, 3) := dq_182 bk_cX7_load_0 4 rfl rfl
theorem dX7_load_7 : decode cX7_load 7 = .ok (.ifCond .eq 13, 3) := dq_153 bk_cX7_load_0 7 rfl (by decide)
theorem dX7_load_10 : decode cX7_load 10 = .ok (.iload 4, 2) := dq_21 bk_cX7_load_0 10 rfl rfl
theorem dX7_load_12 : decode cX7_load 12 = .ok (.iconst 0, 1) := dk_3 (blk_at bk_cX7_load_0 12 rfl)
theorem dX7_load_13 : decode cX7_load 13 = .ok (.iconst 2, 1) := dk_5 (blk_at bk_cX7_load_0 13 rfl)
theorem dX7_load_14 : decode cX7_load 14 = .ok (.invokestatic 113, 3) := dq_184 bk_cX7_load_0 14 rfl rfl
theorem dX7_load_17 : decode cX7_load 17 = .ok (.ifCond .ne 6, 3) := dq_154 bk_cX7_load_0 17 rfl (by decide)
theorem dX7_load_20 : decode cX7_load 20 = .ok (.bipush (-2), 2) := dq_16 bk_cX7_load_0 20 rfl (by decide)
theorem dX7_load_22 : decode cX7_load 22 = .ok (.ireturn, 1) := dk_172 (blk_at bk_cX7_load_0 22 rfl)
theorem dX7_load_23 : decode cX7_load 23 = .ok (.iload 4, 2) := dq_21 bk_cX7_load_0 23 rfl rfl
theorem dX7_load_25 : decode cX7_load 25 = .ok (.ifCond .ne 14, 3) := dq_154 bk_cX7_load_0 25 rfl (by decide)
theorem dX7_load_28 : decode cX7_load 28 = .ok (.aload_n 0, 1) := dk_42 (blk_at bk_cX7_load_0 28 rfl)
theorem dX7_load_29 : decode cX7_load 29 = .ok (.getfield 20, 3) := dq_180 bk_cX7_load_0 29 rfl rfl
theorem dX7_load_32 : decode cX7_load 32 = .ok (.iload_n 1, 1) := dk_27 (blk_at bk_cX7_load_0 32 rfl)
theorem dX7_load_33 : decode cX7_load 33 = .ok (.iload_n 2, 1) := dk_28 (blk_at bk_cX7_load_0 33 rfl)
theorem dX7_load_34 : decode cX7_load 34 = .ok (.iload_n 3, 1) := dk_29 (blk_at bk_cX7_load_0 34 rfl)
theorem dX7_load_35 : decode cX7_load 35 = .ok (.invokevirtual 208, 3) := dq_182 bk_cX7_load_0 35 rfl rfl
theorem dX7_load_38 : decode cX7_load 38 = .ok (.ireturn, 1) := dk_172 (blk_at bk_cX7_load_0 38 rfl)
theorem dX7_load_39 : decode cX7_load 39 = .ok (.aload_n 0, 1) := dk_42 (blk_at bk_cX7_load_0 39 rfl)
theorem bk_cX7_load_40 : (cX7_load.data.toList.drop 40).take 36 = [180, 0, 20, 27, 28, 29, 182, 0, 212, 54, 5, 21, 4, 4, 160, 0, 8, 21, 5, 167, 0, 16, 42, 180, 0, 20, 27, 28, 29, 182, 0, 208, 21, 5, 100, 172] := by decide +kernel
theorem dX7_load_40 : decode cX7_load 40 = .ok (.getfield 20, 3) := dq_180 bk_cX7_load_40 0 rfl rfl
theorem dX7_load_43 : decode cX7_load 43 = .ok (.iload_n 1, 1) := dk_27 (blk_at bk_cX7_load_40 3 rfl)
theorem dX7_load_44 : decode cX7_load 44 = .ok (.iload_n 2, 1) := dk_28 (blk_at bk_cX7_load_40 4 rfl)
theorem dX7_load_45 : decode cX7_load 45 = .ok (.iload_n 3, 1) := dk_29 (blk_at bk_cX7_load_40 5 rfl)
theorem dX7_load_46 : decode cX7_load 46 = .ok (.invokevirtual 212, 3) := dq_182 bk_cX7_load_40 6 rfl rfl
theorem dX7_load_49 : decode cX7_load 49 = .ok (.istore 5, 2) := dq_54 bk_cX7_load_40 9 rfl rfl
theorem dX7_load_51 : decode cX7_load 51 = .ok (.iload 4, 2) := dq_21 bk_cX7_load_40 11 rfl rfl
theorem dX7_load_53 : decode cX7_load 53 = .ok (.iconst 1, 1) := dk_4 (blk_at bk_cX7_load_40 13 rfl)
theorem dX7_load_54 : decode cX7_load 54 = .ok (.if_icmp .ne 8, 3) := dq_160 bk_cX7_load_40 14 rfl (by decide)
theorem dX7_load_57 : decode cX7_load 57 = .ok (.iload 5, 2) := dq_21 bk_cX7_load_40 17 rfl rfl
theorem dX7_load_59 : decode cX7_load 59 = .ok (.goto 16, 3) := dq_167 bk_cX7_load_40 19 rfl (by decide)
theorem dX7_load_62 : decode cX7_load 62 = .ok (.aload_n 0, 1) := dk_42 (blk_at bk_cX7_load_40 22 rfl)
theorem dX7_load_63 : decode cX7_load 63 = .ok (.getfield 20, 3) := dq_180 bk_cX7_load_40 23 rfl rfl
theorem dX7_load_66 : decode cX7_load 66 = .ok (.iload_n 1, 1) := dk_27 (blk_at bk_cX7_load_40 26 rfl)
theorem dX7_load_67 : decode cX7_load 67 = .ok (.iload_n 2, 1) := dk_28 (blk_at bk_cX7_load_40 27 rfl)
theorem dX7_load_68 : decode cX7_load 68 = .ok (.iload_n 3, 1) := dk_29 (blk_at bk_cX7_load_40 28 rfl)
theorem dX7_load_69 : decode cX7_load 69 = .ok (.invokevirtual 208, 3) := dq_182 bk_cX7_load_40 29 rfl rfl
theorem dX7_load_72 : decode cX7_load 72 = .ok (.iload 5, 2) := dq_21 bk_cX7_load_40 32 rfl rfl
theorem dX7_load_74 : decode cX7_load 74 = .ok (.isub, 1) := dk_100 (blk_at bk_cX7_load_40 34 rfl)
theorem dX7_load_75 : decode cX7_load 75 = .ok (.ireturn, 1) := dk_172 (blk_at bk_cX7_load_40 35 rfl)
theorem bk_cX7_at_0 : (cX7_at.data.toList.drop 0).take 38 = [42, 27, 28, 29, 182, 0, 205, 153, 0, 8, 21, 4, 156, 0, 6, 16, 254, 172, 21, 4, 54, 5, 3, 54, 6, 21, 6, 42, 180, 0, 20, 180, 0, 97, 162, 0, 39, 42] := by decide +kernel
theorem dX7_at_0 : decode cX7_at 0 = .ok (.aload_n 0, 1) := dk_42 (blk_at bk_cX7_at_0 0 rfl)
theorem dX7_at_1 : decode cX7_at 1 = .ok (.iload_n 1, 1) := dk_27 (blk_at bk_cX7_at_0 1 rfl)
theorem dX7_at_2 : decode cX7_at 2 = .ok (.iload_n 2, 1) := dk_28 (blk_at bk_cX7_at_0 2 rfl)
theorem dX7_at_3 : decode cX7_at 3 = .ok (.iload_n 3, 1) := dk_29 (blk_at bk_cX7_at_0 3 rfl)
theorem dX7_at_4 : decode cX7_at 4 = .ok (.invokevirtual 205, 3) := dq_182 bk_cX7_at_0 4 rfl rfl
theorem dX7_at_7 : decode cX7_at 7 = .ok (.ifCond .eq 8, 3) := dq_153 bk_cX7_at_0 7 rfl (by decide)
theorem dX7_at_10 : decode cX7_at 10 = .ok (.iload 4, 2) := dq_21 bk_cX7_at_0 10 rfl rfl
theorem dX7_at_12 : decode cX7_at 12 = .ok (.ifCond .ge 6, 3) := dq_156 bk_cX7_at_0 12 rfl (by decide)
theorem dX7_at_15 : decode cX7_at 15 = .ok (.bipush (-2), 2) := dq_16 bk_cX7_at_0 15 rfl (by decide)
theorem dX7_at_17 : decode cX7_at 17 = .ok (.ireturn, 1) := dk_172 (blk_at bk_cX7_at_0 17 rfl)
theorem dX7_at_18 : decode cX7_at 18 = .ok (.iload 4, 2) := dq_21 bk_cX7_at_0 18 rfl rfl
theorem dX7_at_20 : decode cX7_at 20 = .ok (.istore 5, 2) := dq_54 bk_cX7_at_0 20 rfl rfl
theorem dX7_at_22 : decode cX7_at 22 = .ok (.iconst 0, 1) := dk_3 (blk_at bk_cX7_at_0 22 rfl)
theorem dX7_at_23 : decode cX7_at 23 = .ok (.istore 6, 2) := dq_54 bk_cX7_at_0 23 rfl rfl
theorem dX7_at_25 : decode cX7_at 25 = .ok (.iload 6, 2) := dq_21 bk_cX7_at_0 25 rfl rfl
theorem dX7_at_27 : decode cX7_at 27 = .ok (.aload_n 0, 1) := dk_42 (blk_at bk_cX7_at_0 27 rfl)
theorem dX7_at_28 : decode cX7_at 28 = .ok (.getfield 20, 3) := dq_180 bk_cX7_at_0 28 rfl rfl
theorem dX7_at_31 : decode cX7_at 31 = .ok (.getfield 97, 3) := dq_180 bk_cX7_at_0 31 rfl rfl
theorem dX7_at_34 : decode cX7_at 34 = .ok (.if_icmp .ge 39, 3) := dq_162 bk_cX7_at_0 34 rfl (by decide)
theorem dX7_at_37 : decode cX7_at 37 = .ok (.aload_n 0, 1) := dk_42 (blk_at bk_cX7_at_0 37 rfl)
theorem bk_cX7_at_38 : (cX7_at.data.toList.drop 38).take 37 = [180, 0, 20, 180, 0, 135, 21, 6, 50, 27, 28, 29, 182, 0, 215, 153, 0, 14, 21, 5, 154, 0, 6, 21, 6, 172, 132, 5, 255, 132, 6, 1, 167, 255, 211, 2, 172] := by decide +kernel
theorem dX7_at_38 : decode cX7_at 38 = .ok (.getfield 20, 3) := dq_180 bk_cX7_at_38 0 rfl rfl
theorem dX7_at_41 : decode cX7_at 41 = .ok (.getfield 135, 3) := dq_180 bk_cX7_at_38 3 rfl rfl
theorem dX7_at_44 : decode cX7_at 44 = .ok (.iload 6, 2) := dq_21 bk_cX7_at_38 6 rfl rfl
theorem dX7_at_46 : decode cX7_at 46 = .ok (.aaload, 1) := dk_50 (blk_at bk_cX7_at_38 8 rfl)
theorem dX7_at_47 : decode cX7_at 47 = .ok (.iload_n 1, 1) := dk_27 (blk_at bk_cX7_at_38 9 rfl)
theorem dX7_at_48 : decode cX7_at 48 = .ok (.iload_n 2, 1) := dk_28 (blk_at bk_cX7_at_38 10 rfl)
theorem dX7_at_49 : decode cX7_at 49 = .ok (.iload_n 3, 1) := dk_29 (blk_at bk_cX7_at_38 11 rfl)
theorem dX7_at_50 : decode cX7_at 50 = .ok (.invokevirtual 215, 3) := dq_182 bk_cX7_at_38 12 rfl rfl
theorem dX7_at_53 : decode cX7_at 53 = .ok (.ifCond .eq 14, 3) := dq_153 bk_cX7_at_38 15 rfl (by decide)
theorem dX7_at_56 : decode cX7_at 56 = .ok (.iload 5, 2) := dq_21 bk_cX7_at_38 18 rfl rfl
theorem dX7_at_58 : decode cX7_at 58 = .ok (.ifCond .ne 6, 3) := dq_154 bk_cX7_at_38 20 rfl (by decide)
theorem dX7_at_61 : decode cX7_at 61 = .ok (.iload 6, 2) := dq_21 bk_cX7_at_38 23 rfl rfl
theorem dX7_at_63 : decode cX7_at 63 = .ok (.ireturn, 1) := dk_172 (blk_at bk_cX7_at_38 25 rfl)
theorem dX7_at_64 : decode cX7_at 64 = .ok (.iinc 5 (-1), 3) := dq_132 bk_cX7_at_38 26 rfl rfl (by decide)
theorem dX7_at_67 : decode cX7_at 67 = .ok (.iinc 6 1, 3) := dq_132 bk_cX7_at_38 29 rfl rfl (by decide)
theorem dX7_at_70 : decode cX7_at 70 = .ok (.goto (-45), 3) := dq_167 bk_cX7_at_38 32 rfl (by decide)
theorem dX7_at_73 : decode cX7_at 73 = .ok (.iconst (-1), 1) := dk_2 (blk_at bk_cX7_at_38 35 rfl)
theorem dX7_at_74 : decode cX7_at 74 = .ok (.ireturn, 1) := dk_172 (blk_at bk_cX7_at_38 36 rfl)
theorem bk_cX7_room_0 : (cX7_room.data.toList.drop 0).take 40 = [42, 27, 28, 29, 182, 0, 205, 153, 0, 11, 21, 4, 184, 0, 218, 154, 0, 6, 16, 254, 172, 42, 180, 0, 20, 180, 0, 198, 29, 46, 42, 180, 0, 20, 27, 28, 29, 182, 0, 208] := by decide +kernel
theorem dX7_room_0 : decode cX7_room 0 = .ok (.aload_n 0, 1) := dk_42 (blk_at bk_cX7_room_0 0 rfl)
theorem dX7_room_1 : decode cX7_room 1 = .ok (.iload_n 1, 1) := dk_27 (blk_at bk_cX7_room_0 1 rfl)
theorem dX7_room_2 : decode cX7_room 2 = .ok (.iload_n 2, 1) := dk_28 (blk_at bk_cX7_room_0 2 rfl)
theorem dX7_room_3 : decode cX7_room 3 = .ok (.iload_n 3, 1) := dk_29 (blk_at bk_cX7_room_0 3 rfl)
theorem dX7_room_4 : decode cX7_room 4 = .ok (.invokevirtual 205, 3) := dq_182 bk_cX7_room_0 4 rfl rfl
theorem dX7_room_7 : decode cX7_room 7 = .ok (.ifCond .eq 11, 3) := dq_153 bk_cX7_room_0 7 rfl (by decide)
theorem dX7_room_10 : decode cX7_room 10 = .ok (.iload 4, 2) := dq_21 bk_cX7_room_0 10 rfl rfl
theorem dX7_room_12 : decode cX7_room 12 = .ok (.invokestatic 218, 3) := dq_184 bk_cX7_room_0 12 rfl rfl
theorem dX7_room_15 : decode cX7_room 15 = .ok (.ifCond .ne 6, 3) := dq_154 bk_cX7_room_0 15 rfl (by decide)
theorem dX7_room_18 : decode cX7_room 18 = .ok (.bipush (-2), 2) := dq_16 bk_cX7_room_0 18 rfl (by decide)
theorem dX7_room_20 : decode cX7_room 20 = .ok (.ireturn, 1) := dk_172 (blk_at bk_cX7_room_0 20 rfl)
theorem dX7_room_21 : decode cX7_room 21 = .ok (.aload_n 0, 1) := dk_42 (blk_at bk_cX7_room_0 21 rfl)
theorem dX7_room_22 : decode cX7_room 22 = .ok (.getfield 20, 3) := dq_180 bk_cX7_room_0 22 rfl rfl
theorem dX7_room_25 : decode cX7_room 25 = .ok (.getfield 198, 3) := dq_180 bk_cX7_room_0 25 rfl rfl
theorem dX7_room_28 : decode cX7_room 28 = .ok (.iload_n 3, 1) := dk_29 (blk_at bk_cX7_room_0 28 rfl)
theorem dX7_room_29 : decode cX7_room 29 = .ok (.iaload, 1) := dk_46 (blk_at bk_cX7_room_0 29 rfl)
theorem dX7_room_30 : decode cX7_room 30 = .ok (.aload_n 0, 1) := dk_42 (blk_at bk_cX7_room_0 30 rfl)
theorem dX7_room_31 : decode cX7_room 31 = .ok (.getfield 20, 3) := dq_180 bk_cX7_room_0 31 rfl rfl
theorem dX7_room_34 : decode cX7_room 34 = .ok (.iload_n 1, 1) := dk_27 (blk_at bk_cX7_room_0 34 rfl)
theorem dX7_room_35 : decode cX7_room 35 = .ok (.iload_n 2, 1) := dk_28 (blk_at bk_cX7_room_0 35 rfl)
theorem dX7_room_36 : decode cX7_room 36 = .ok (.iload_n 3, 1) := dk_29 (blk_at bk_cX7_room_0 36 rfl)
theorem dX7_room_37 : decode cX7_room 37 = .ok (.invokevirtual 208, 3) := dq_182 bk_cX7_room_0 37 rfl rfl
theorem bk_cX7_room_40 : (cX7_room.data.toList.drop 40).take 38 = [100, 54, 5, 21, 4, 154, 0, 30, 21, 5, 42, 180, 0, 20, 180, 0, 202, 29, 46, 42, 180, 0, 20, 27, 28, 29, 182, 0, 212, 100, 184, 0, 221, 54, 5, 21, 5, 3] := by decide +kernel
theorem dX7_room_40 : decode cX7_room 40 = .ok (.isub, 1) := dk_100 (blk_at bk_cX7_room_40 0 rfl)
theorem dX7_room_41 : decode cX7_room 41 = .ok (.istore 5, 2) := dq_54 bk_cX7_room_40 1 rfl rfl
theorem dX7_room_43 : decode cX7_room 43 = .ok (.iload 4, 2) := dq_21 bk_cX7_room_40 3 rfl rfl
theorem dX7_room_45 : decode cX7_room 45 = .ok (.ifCond .ne 30, 3) := dq_154 bk_cX7_room_40 5 rfl (by decide)
theorem dX7_room_48 : decode cX7_room 48 = .ok (.iload 5, 2) := dq_21 bk_cX7_room_40 8 rfl rfl
theorem dX7_room_50 : decode cX7_room 50 = .ok (.aload_n 0, 1) := dk_42 (blk_at bk_cX7_room_40 10 rfl)
theorem dX7_room_51 : decode cX7_room 51 = .ok (.getfield 20, 3) := dq_180 bk_cX7_room_40 11 rfl rfl
theorem dX7_room_54 : decode cX7_room 54 = .ok (.getfield 202, 3) := dq_180 bk_cX7_room_40 14 rfl rfl
theorem dX7_room_57 : decode cX7_room 57 = .ok (.iload_n 3, 1) := dk_29 (blk_at bk_cX7_room_40 17 rfl)
theorem dX7_room_58 : decode cX7_room 58 = .ok (.iaload, 1) := dk_46 (blk_at bk_cX7_room_40 18 rfl)
theorem dX7_room_59 : decode cX7_room 59 = .ok (.aload_n 0, 1) := dk_42 (blk_at bk_cX7_room_40 19 rfl)
theorem dX7_room_60 : decode cX7_room 60 = .ok (.getfield 20, 3) := dq_180 bk_cX7_room_40 20 rfl rfl
theorem dX7_room_63 : decode cX7_room 63 = .ok (.iload_n 1, 1) := dk_27 (blk_at bk_cX7_room_40 23 rfl)
theorem dX7_room_64 : decode cX7_room 64 = .ok (.iload_n 2, 1) := dk_28 (blk_at bk_cX7_room_40 24 rfl)
theorem dX7_room_65 : decode cX7_room 65 = .ok (.iload_n 3, 1) := dk_29 (blk_at bk_cX7_room_40 25 rfl)
theorem dX7_room_66 : decode cX7_room 66 = .ok (.invokevirtual 212, 3) := dq_182 bk_cX7_room_40 26 rfl rfl
theorem dX7_room_69 : decode cX7_room 69 = .ok (.isub, 1) := dk_100 (blk_at bk_cX7_room_40 29 rfl)
theorem dX7_room_70 : decode cX7_room 70 = .ok (.invokestatic 221, 3) := dq_184 bk_cX7_room_40 30 rfl rfl
theorem dX7_room_73 : decode cX7_room 73 = .ok (.istore 5, 2) := dq_54 bk_cX7_room_40 33 rfl rfl
theorem dX7_room_75 : decode cX7_room 75 = .ok (.iload 5, 2) := dq_21 bk_cX7_room_40 35 rfl rfl
theorem dX7_room_77 : decode cX7_room 77 = .ok (.iconst 0, 1) := dk_3 (blk_at bk_cX7_room_40 37 rfl)
theorem bk_cX7_room_78 : (cX7_room.data.toList.drop 78).take 4 = [184, 0, 226, 172] := by decide +kernel
theorem dX7_room_78 : decode cX7_room 78 = .ok (.invokestatic 226, 3) := dq_184 bk_cX7_room_78 0 rfl rfl
theorem dX7_room_81 : decode cX7_room 81 = .ok (.ireturn, 1) := dk_172 (blk_at bk_cX7_room_78 3 rfl)
theorem bk_cX7_use_0 : (cX7_use.data.toList.drop 0).take 40 = [42, 27, 182, 0, 132, 153, 0, 12, 28, 3, 4, 184, 0, 113, 154, 0, 6, 16, 254, 172, 28, 154, 0, 18, 42, 180, 0, 20, 180, 0, 135, 27, 50, 182, 0, 229, 167, 0, 15, 42] := by decide +kernel
theorem dX7_use_0 : decode cX7_use 0 = .ok (.aload_n 0, 1) := dk_42 (blk_at bk_cX7_use_0 0 rfl)
theorem dX7_use_1 : decode cX7_use 1 = .ok (.iload_n 1, 1) := dk_27 (blk_at bk_cX7_use_0 1 rfl)
theorem dX7_use_2 : decode cX7_use 2 = .ok (.invokevirtual 132, 3) := dq_182 bk_cX7_use_0 2 rfl rfl
theorem dX7_use_5 : decode cX7_use 5 = .ok (.ifCond .eq 12, 3) := dq_153 bk_cX7_use_0 5 rfl (by decide)
theorem dX7_use_8 : decode cX7_use 8 = .ok (.iload_n 2, 1) := dk_28 (blk_at bk_cX7_use_0 8 rfl)
theorem dX7_use_9 : decode cX7_use 9 = .ok (.iconst 0, 1) := dk_3 (blk_at bk_cX7_use_0 9 rfl)
theorem dX7_use_10 : decode cX7_use 10 = .ok (.iconst 1, 1) := dk_4 (blk_at bk_cX7_use_0 10 rfl)
theorem dX7_use_11 : decode cX7_use 11 = .ok (.invokestatic 113, 3) := dq_184 bk_cX7_use_0 11 rfl rfl
theorem dX7_use_14 : decode cX7_use 14 = .ok (.ifCond .ne 6, 3) := dq_154 bk_cX7_use_0 14 rfl (by decide)
theorem dX7_use_17 : decode cX7_use 17 = .ok (.bipush (-2), 2) := dq_16 bk_cX7_use_0 17 rfl (by decide)
theorem dX7_use_19 : decode cX7_use 19 = .ok (.ireturn, 1) := dk_172 (blk_at bk_cX7_use_0 19 rfl)
theorem dX7_use_20 : decode cX7_use 20 = .ok (.iload_n 2, 1) := dk_28 (blk_at bk_cX7_use_0 20 rfl)
theorem dX7_use_21 : decode cX7_use 21 = .ok (.ifCond .ne 18, 3) := dq_154 bk_cX7_use_0 21 rfl (by decide)
theorem dX7_use_24 : decode cX7_use 24 = .ok (.aload_n 0, 1) := dk_42 (blk_at bk_cX7_use_0 24 rfl)
theorem dX7_use_25 : decode cX7_use 25 = .ok (.getfield 20, 3) := dq_180 bk_cX7_use_0 25 rfl rfl
theorem dX7_use_28 : decode cX7_use 28 = .ok (.getfield 135, 3) := dq_180 bk_cX7_use_0 28 rfl rfl
theorem dX7_use_31 : decode cX7_use 31 = .ok (.iload_n 1, 1) := dk_27 (blk_at bk_cX7_use_0 31 rfl)
theorem dX7_use_32 : decode cX7_use 32 = .ok (.aaload, 1) := dk_50 (blk_at bk_cX7_use_0 32 rfl)
theorem dX7_use_33 : decode cX7_use 33 = .ok (.invokevirtual 229, 3) := dq_182 bk_cX7_use_0 33 rfl rfl
theorem dX7_use_36 : decode cX7_use 36 = .ok (.goto 15, 3) := dq_167 bk_cX7_use_0 36 rfl (by decide)
theorem dX7_use_39 : decode cX7_use 39 = .ok (.aload_n 0, 1) := dk_42 (blk_at bk_cX7_use_0 39 rfl)
theorem bk_cX7_use_40 : (cX7_use.data.toList.drop 40).take 12 = [180, 0, 20, 180, 0, 135, 27, 50, 182, 0, 233, 172] := by decide +kernel
theorem dX7_use_40 : decode cX7_use 40 = .ok (.getfield 20, 3) := dq_180 bk_cX7_use_40 0 rfl rfl
theorem dX7_use_43 : decode cX7_use 43 = .ok (.getfield 135, 3) := dq_180 bk_cX7_use_40 3 rfl rfl
theorem dX7_use_46 : decode cX7_use 46 = .ok (.iload_n 1, 1) := dk_27 (blk_at bk_cX7_use_40 6 rfl)
theorem dX7_use_47 : decode cX7_use 47 = .ok (.aaload, 1) := dk_50 (blk_at bk_cX7_use_40 7 rfl)
theorem dX7_use_48 : decode cX7_use 48 = .ok (.invokevirtual 233, 3) := dq_182 bk_cX7_use_40 8 rfl rfl
theorem dX7_use_51 : decode cX7_use 51 = .ok (.ireturn, 1) := dk_172 (blk_at bk_cX7_use_40 11 rfl)
theorem bk_cX7_stands_0 : (cX7_stands.data.toList.drop 0).take 38 = [42, 27, 182, 0, 132, 154, 0, 6, 16, 254, 172, 42, 180, 0, 20, 180, 0, 135, 27, 50, 77, 44, 182, 0, 236, 153, 0, 5, 4, 172, 44, 182, 0, 239, 153, 0, 7, 5] := by decide +kernel
theorem dX7_stands_0 : decode cX7_stands 0 = .ok (.aload_n 0, 1) := dk_42 (blk_at bk_cX7_stands_0 0 rfl)
theorem dX7_stands_1 : decode cX7_stands 1 = .ok (.iload_n 1, 1) := dk_27 (blk_at bk_cX7_stands_0 1 rfl)
theorem dX7_stands_2 : decode cX7_stands 2 = .ok (.invokevirtual 132, 3) := dq_182 bk_cX7_stands_0 2 rfl rfl
theorem dX7_stands_5 : decode cX7_stands 5 = .ok (.ifCond .ne 6, 3) := dq_154 bk_cX7_stands_0 5 rfl (by decide)
theorem dX7_stands_8 : decode cX7_stands 8 = .ok (.bipush (-2), 2) := dq_16 bk_cX7_stands_0 8 rfl (by decide)
theorem dX7_stands_10 : decode cX7_stands 10 = .ok (.ireturn, 1) := dk_172 (blk_at bk_cX7_stands_0 10 rfl)
theorem dX7_stands_11 : decode cX7_stands 11 = .ok (.aload_n 0, 1) := dk_42 (blk_at bk_cX7_stands_0 11 rfl)
theorem dX7_stands_12 : decode cX7_stands 12 = .ok (.getfield 20, 3) := dq_180 bk_cX7_stands_0 12 rfl rfl
theorem dX7_stands_15 : decode cX7_stands 15 = .ok (.getfield 135, 3) := dq_180 bk_cX7_stands_0 15 rfl rfl
theorem dX7_stands_18 : decode cX7_stands 18 = .ok (.iload_n 1, 1) := dk_27 (blk_at bk_cX7_stands_0 18 rfl)
theorem dX7_stands_19 : decode cX7_stands 19 = .ok (.aaload, 1) := dk_50 (blk_at bk_cX7_stands_0 19 rfl)
theorem dX7_stands_20 : decode cX7_stands 20 = .ok (.astore_n 2, 1) := dk_77 (blk_at bk_cX7_stands_0 20 rfl)
theorem dX7_stands_21 : decode cX7_stands 21 = .ok (.aload_n 2, 1) := dk_44 (blk_at bk_cX7_stands_0 21 rfl)
theorem dX7_stands_22 : decode cX7_stands 22 = .ok (.invokevirtual 236, 3) := dq_182 bk_cX7_stands_0 22 rfl rfl
theorem dX7_stands_25 : decode cX7_stands 25 = .ok (.ifCond .eq 5, 3) := dq_153 bk_cX7_stands_0 25 rfl (by decide)
theorem dX7_stands_28 : decode cX7_stands 28 = .ok (.iconst 1, 1) := dk_4 (blk_at bk_cX7_stands_0 28 rfl)
theorem dX7_stands_29 : decode cX7_stands 29 = .ok (.ireturn, 1) := dk_172 (blk_at bk_cX7_stands_0 29 rfl)
theorem dX7_stands_30 : decode cX7_stands 30 = .ok (.aload_n 2, 1) := dk_44 (blk_at bk_cX7_stands_0 30 rfl)
theorem dX7_stands_31 : decode cX7_stands 31 = .ok (.invokevirtual 239, 3) := dq_182 bk_cX7_stands_0 31 rfl rfl
theorem dX7_stands_34 : decode cX7_stands 34 = .ok (.ifCond .eq 7, 3) := dq_153 bk_cX7_stands_0 34 rfl (by decide)
theorem dX7_stands_37 : decode cX7_stands 37 = .ok (.iconst 2, 1) := dk_5 (blk_at bk_cX7_stands_0 37 rfl)
theorem bk_cX7_stands_38 : (cX7_stands.data.toList.drop 38).take 5 = [167, 0, 4, 3, 172] := by decide +kernel
theorem dX7_stands_38 : decode cX7_stands 38 = .ok (.goto 4, 3) := dq_167 bk_cX7_stands_38 0 rfl (by decide)
theorem dX7_stands_41 : decode cX7_stands 41 = .ok (.iconst 0, 1) := dk_3 (blk_at bk_cX7_stands_38 3 rfl)
theorem dX7_stands_42 : decode cX7_stands 42 = .ok (.ireturn, 1) := dk_172 (blk_at bk_cX7_stands_38 4 rfl)
theorem bk_cX7_spare_0 : (cX7_spare.data.toList.drop 0).take 24 = [42, 27, 182, 0, 132, 154, 0, 6, 16, 254, 172, 42, 180, 0, 20, 180, 0, 135, 27, 50, 182, 0, 242, 172] := by decide +kernel
theorem dX7_spare_0 : decode cX7_spare 0 = .ok (.aload_n 0, 1) := dk_42 (blk_at bk_cX7_spare_0 0 rfl)
theorem dX7_spare_1 : decode cX7_spare 1 = .ok (.iload_n 1, 1) := dk_27 (blk_at bk_cX7_spare_0 1 rfl)
theorem dX7_spare_2 : decode cX7_spare 2 = .ok (.invokevirtual 132, 3) := dq_182 bk_cX7_spare_0 2 rfl rfl
theorem dX7_spare_5 : decode cX7_spare 5 = .ok (.ifCond .ne 6, 3) := dq_154 bk_cX7_spare_0 5 rfl (by decide)
theorem dX7_spare_8 : decode cX7_spare 8 = .ok (.bipush (-2), 2) := dq_16 bk_cX7_spare_0 8 rfl (by decide)
theorem dX7_spare_10 : decode cX7_spare 10 = .ok (.ireturn, 1) := dk_172 (blk_at bk_cX7_spare_0 10 rfl)
theorem dX7_spare_11 : decode cX7_spare 11 = .ok (.aload_n 0, 1) := dk_42 (blk_at bk_cX7_spare_0 11 rfl)
theorem dX7_spare_12 : decode cX7_spare 12 = .ok (.getfield 20, 3) := dq_180 bk_cX7_spare_0 12 rfl rfl
theorem dX7_spare_15 : decode cX7_spare 15 = .ok (.getfield 135, 3) := dq_180 bk_cX7_spare_0 15 rfl rfl
theorem dX7_spare_18 : decode cX7_spare 18 = .ok (.iload_n 1, 1) := dk_27 (blk_at bk_cX7_spare_0 18 rfl)
theorem dX7_spare_19 : decode cX7_spare 19 = .ok (.aaload, 1) := dk_50 (blk_at bk_cX7_spare_0 19 rfl)
theorem dX7_spare_20 : decode cX7_spare 20 = .ok (.invokevirtual 242, 3) := dq_182 bk_cX7_spare_0 20 rfl rfl
theorem dX7_spare_23 : decode cX7_spare 23 = .ok (.ireturn, 1) := dk_172 (blk_at bk_cX7_spare_0 23 rfl)
theorem bk_cX7_of_0 : (cX7_of.data.toList.drop 0).take 38 = [42, 27, 182, 0, 109, 153, 0, 16, 28, 2, 159, 0, 14, 42, 28, 182, 0, 245, 154, 0, 6, 16, 254, 172, 3, 62, 3, 54, 4, 21, 4, 42, 180, 0, 20, 180, 0, 97] := by decide +kernel
theorem dX7_of_0 : decode cX7_of 0 = .ok (.aload_n 0, 1) := dk_42 (blk_at bk_cX7_of_0 0 rfl)
theorem dX7_of_1 : decode cX7_of 1 = .ok (.iload_n 1, 1) := dk_27 (blk_at bk_cX7_of_0 1 rfl)
theorem dX7_of_2 : decode cX7_of 2 = .ok (.invokevirtual 109, 3) := dq_182 bk_cX7_of_0 2 rfl rfl
theorem dX7_of_5 : decode cX7_of 5 = .ok (.ifCond .eq 16, 3) := dq_153 bk_cX7_of_0 5 rfl (by decide)
theorem dX7_of_8 : decode cX7_of 8 = .ok (.iload_n 2, 1) := dk_28 (blk_at bk_cX7_of_0 8 rfl)
theorem dX7_of_9 : decode cX7_of 9 = .ok (.iconst (-1), 1) := dk_2 (blk_at bk_cX7_of_0 9 rfl)
theorem dX7_of_10 : decode cX7_of 10 = .ok (.if_icmp .eq 14, 3) := dq_159 bk_cX7_of_0 10 rfl (by decide)
theorem dX7_of_13 : decode cX7_of 13 = .ok (.aload_n 0, 1) := dk_42 (blk_at bk_cX7_of_0 13 rfl)
theorem dX7_of_14 : decode cX7_of 14 = .ok (.iload_n 2, 1) := dk_28 (blk_at bk_cX7_of_0 14 rfl)
theorem dX7_of_15 : decode cX7_of 15 = .ok (.invokevirtual 245, 3) := dq_182 bk_cX7_of_0 15 rfl rfl
theorem dX7_of_18 : decode cX7_of 18 = .ok (.ifCond .ne 6, 3) := dq_154 bk_cX7_of_0 18 rfl (by decide)
theorem dX7_of_21 : decode cX7_of 21 = .ok (.bipush (-2), 2) := dq_16 bk_cX7_of_0 21 rfl (by decide)
theorem dX7_of_23 : decode cX7_of 23 = .ok (.ireturn, 1) := dk_172 (blk_at bk_cX7_of_0 23 rfl)
theorem dX7_of_24 : decode cX7_of 24 = .ok (.iconst 0, 1) := dk_3 (blk_at bk_cX7_of_0 24 rfl)
theorem dX7_of_25 : decode cX7_of 25 = .ok (.istore_n 3, 1) := dk_62 (blk_at bk_cX7_of_0 25 rfl)
theorem dX7_of_26 : decode cX7_of 26 = .ok (.iconst 0, 1) := dk_3 (blk_at bk_cX7_of_0 26 rfl)
theorem dX7_of_27 : decode cX7_of 27 = .ok (.istore 4, 2) := dq_54 bk_cX7_of_0 27 rfl rfl
theorem dX7_of_29 : decode cX7_of 29 = .ok (.iload 4, 2) := dq_21 bk_cX7_of_0 29 rfl rfl
theorem dX7_of_31 : decode cX7_of 31 = .ok (.aload_n 0, 1) := dk_42 (blk_at bk_cX7_of_0 31 rfl)
theorem dX7_of_32 : decode cX7_of 32 = .ok (.getfield 20, 3) := dq_180 bk_cX7_of_0 32 rfl rfl
theorem dX7_of_35 : decode cX7_of 35 = .ok (.getfield 97, 3) := dq_180 bk_cX7_of_0 35 rfl rfl
theorem bk_cX7_of_38 : (cX7_of.data.toList.drop 38).take 36 = [162, 0, 34, 42, 180, 0, 20, 180, 0, 135, 21, 4, 50, 27, 28, 182, 0, 248, 153, 0, 10, 29, 4, 21, 4, 120, 128, 62, 132, 4, 1, 167, 255, 216, 29, 172] := by decide +kernel
theorem dX7_of_38 : decode cX7_of 38 = .ok (.if_icmp .ge 34, 3) := dq_162 bk_cX7_of_38 0 rfl (by decide)
theorem dX7_of_41 : decode cX7_of 41 = .ok (.aload_n 0, 1) := dk_42 (blk_at bk_cX7_of_38 3 rfl)
theorem dX7_of_42 : decode cX7_of 42 = .ok (.getfield 20, 3) := dq_180 bk_cX7_of_38 4 rfl rfl
theorem dX7_of_45 : decode cX7_of 45 = .ok (.getfield 135, 3) := dq_180 bk_cX7_of_38 7 rfl rfl
theorem dX7_of_48 : decode cX7_of 48 = .ok (.iload 4, 2) := dq_21 bk_cX7_of_38 10 rfl rfl
theorem dX7_of_50 : decode cX7_of 50 = .ok (.aaload, 1) := dk_50 (blk_at bk_cX7_of_38 12 rfl)
theorem dX7_of_51 : decode cX7_of 51 = .ok (.iload_n 1, 1) := dk_27 (blk_at bk_cX7_of_38 13 rfl)
theorem dX7_of_52 : decode cX7_of 52 = .ok (.iload_n 2, 1) := dk_28 (blk_at bk_cX7_of_38 14 rfl)
theorem dX7_of_53 : decode cX7_of 53 = .ok (.invokevirtual 248, 3) := dq_182 bk_cX7_of_38 15 rfl rfl
theorem dX7_of_56 : decode cX7_of 56 = .ok (.ifCond .eq 10, 3) := dq_153 bk_cX7_of_38 18 rfl (by decide)
theorem dX7_of_59 : decode cX7_of 59 = .ok (.iload_n 3, 1) := dk_29 (blk_at bk_cX7_of_38 21 rfl)
theorem dX7_of_60 : decode cX7_of 60 = .ok (.iconst 1, 1) := dk_4 (blk_at bk_cX7_of_38 22 rfl)
theorem dX7_of_61 : decode cX7_of 61 = .ok (.iload 4, 2) := dq_21 bk_cX7_of_38 23 rfl rfl
theorem dX7_of_63 : decode cX7_of 63 = .ok (.ishl, 1) := dk_120 (blk_at bk_cX7_of_38 25 rfl)
theorem dX7_of_64 : decode cX7_of 64 = .ok (.ior, 1) := dk_128 (blk_at bk_cX7_of_38 26 rfl)
theorem dX7_of_65 : decode cX7_of 65 = .ok (.istore_n 3, 1) := dk_62 (blk_at bk_cX7_of_38 27 rfl)
theorem dX7_of_66 : decode cX7_of 66 = .ok (.iinc 4 1, 3) := dq_132 bk_cX7_of_38 28 rfl rfl (by decide)
theorem dX7_of_69 : decode cX7_of 69 = .ok (.goto (-40), 3) := dq_167 bk_cX7_of_38 31 rfl (by decide)
theorem dX7_of_72 : decode cX7_of 72 = .ok (.iload_n 3, 1) := dk_29 (blk_at bk_cX7_of_38 34 rfl)
theorem dX7_of_73 : decode cX7_of 73 = .ok (.ireturn, 1) := dk_172 (blk_at bk_cX7_of_38 35 rfl)
theorem bk_cX7_entrant_0 : (cX7_entrant.data.toList.drop 0).take 38 = [42, 27, 182, 0, 109, 153, 0, 11, 42, 28, 182, 0, 245, 154, 0, 6, 16, 254, 172, 42, 180, 0, 20, 27, 28, 182, 0, 252, 5, 162, 0, 7, 4, 167, 0, 4, 3, 172] := by decide +kernel
theorem dX7_entrant_0 : decode cX7_entrant 0 = .ok (.aload_n 0, 1) := dk_42 (blk_at bk_cX7_entrant_0 0 rfl)
theorem dX7_entrant_1 : decode cX7_entrant 1 = .ok (.iload_n 1, 1) := dk_27 (blk_at bk_cX7_entrant_0 1 rfl)
theorem dX7_entrant_2 : decode cX7_entrant 2 = .ok (.invokevirtual 109, 3) := dq_182 bk_cX7_entrant_0 2 rfl rfl
theorem dX7_entrant_5 : decode cX7_entrant 5 = .ok (.ifCond .eq 11, 3) := dq_153 bk_cX7_entrant_0 5 rfl (by decide)
theorem dX7_entrant_8 : decode cX7_entrant 8 = .ok (.aload_n 0, 1) := dk_42 (blk_at bk_cX7_entrant_0 8 rfl)
theorem dX7_entrant_9 : decode cX7_entrant 9 = .ok (.iload_n 2, 1) := dk_28 (blk_at bk_cX7_entrant_0 9 rfl)
theorem dX7_entrant_10 : decode cX7_entrant 10 = .ok (.invokevirtual 245, 3) := dq_182 bk_cX7_entrant_0 10 rfl rfl
theorem dX7_entrant_13 : decode cX7_entrant 13 = .ok (.ifCond .ne 6, 3) := dq_154 bk_cX7_entrant_0 13 rfl (by decide)
theorem dX7_entrant_16 : decode cX7_entrant 16 = .ok (.bipush (-2), 2) := dq_16 bk_cX7_entrant_0 16 rfl (by decide)
theorem dX7_entrant_18 : decode cX7_entrant 18 = .ok (.ireturn, 1) := dk_172 (blk_at bk_cX7_entrant_0 18 rfl)
theorem dX7_entrant_19 : decode cX7_entrant 19 = .ok (.aload_n 0, 1) := dk_42 (blk_at bk_cX7_entrant_0 19 rfl)
theorem dX7_entrant_20 : decode cX7_entrant 20 = .ok (.getfield 20, 3) := dq_180 bk_cX7_entrant_0 20 rfl rfl
theorem dX7_entrant_23 : decode cX7_entrant 23 = .ok (.iload_n 1, 1) := dk_27 (blk_at bk_cX7_entrant_0 23 rfl)
theorem dX7_entrant_24 : decode cX7_entrant 24 = .ok (.iload_n 2, 1) := dk_28 (blk_at bk_cX7_entrant_0 24 rfl)
theorem dX7_entrant_25 : decode cX7_entrant 25 = .ok (.invokevirtual 252, 3) := dq_182 bk_cX7_entrant_0 25 rfl rfl
theorem dX7_entrant_28 : decode cX7_entrant 28 = .ok (.iconst 2, 1) := dk_5 (blk_at bk_cX7_entrant_0 28 rfl)
theorem dX7_entrant_29 : decode cX7_entrant 29 = .ok (.if_icmp .ge 7, 3) := dq_162 bk_cX7_entrant_0 29 rfl (by decide)
theorem dX7_entrant_32 : decode cX7_entrant 32 = .ok (.iconst 1, 1) := dk_4 (blk_at bk_cX7_entrant_0 32 rfl)
theorem dX7_entrant_33 : decode cX7_entrant 33 = .ok (.goto 4, 3) := dq_167 bk_cX7_entrant_0 33 rfl (by decide)
theorem dX7_entrant_36 : decode cX7_entrant 36 = .ok (.iconst 0, 1) := dk_3 (blk_at bk_cX7_entrant_0 36 rfl)
theorem dX7_entrant_37 : decode cX7_entrant 37 = .ok (.ireturn, 1) := dk_172 (blk_at bk_cX7_entrant_0 37 rfl)
theorem bk_cX7_sum_0 : (cX7_sum.data.toList.drop 0).take 39 = [42, 27, 182, 0, 109, 153, 0, 10, 28, 184, 0, 160, 154, 0, 6, 16, 254, 172, 3, 62, 3, 54, 4, 21, 4, 42, 180, 0, 20, 180, 0, 97, 162, 0, 46, 42, 180, 0, 20] := by decide +kernel
theorem dX7_sum_0 : decode cX7_sum 0 = .ok (.aload_n 0, 1) := dk_42 (blk_at bk_cX7_sum_0 0 rfl)
theorem dX7_sum_1 : decode cX7_sum 1 = .ok (.iload_n 1, 1) := dk_27 (blk_at bk_cX7_sum_0 1 rfl)
theorem dX7_sum_2 : decode cX7_sum 2 = .ok (.invokevirtual 109, 3) := dq_182 bk_cX7_sum_0 2 rfl rfl
theorem dX7_sum_5 : decode cX7_sum 5 = .ok (.ifCond .eq 10, 3) := dq_153 bk_cX7_sum_0 5 rfl (by decide)
theorem dX7_sum_8 : decode cX7_sum 8 = .ok (.iload_n 2, 1) := dk_28 (blk_at bk_cX7_sum_0 8 rfl)
theorem dX7_sum_9 : decode cX7_sum 9 = .ok (.invokestatic 160, 3) := dq_184 bk_cX7_sum_0 9 rfl rfl
theorem dX7_sum_12 : decode cX7_sum 12 = .ok (.ifCond .ne 6, 3) := dq_154 bk_cX7_sum_0 12 rfl (by decide)
theorem dX7_sum_15 : decode cX7_sum 15 = .ok (.bipush (-2), 2) := dq_16 bk_cX7_sum_0 15 rfl (by decide)
theorem dX7_sum_17 : decode cX7_sum 17 = .ok (.ireturn, 1) := dk_172 (blk_at bk_cX7_sum_0 17 rfl)
theorem dX7_sum_18 : decode cX7_sum 18 = .ok (.iconst 0, 1) := dk_3 (blk_at bk_cX7_sum_0 18 rfl)
theorem dX7_sum_19 : decode cX7_sum 19 = .ok (.istore_n 3, 1) := dk_62 (blk_at bk_cX7_sum_0 19 rfl)
theorem dX7_sum_20 : decode cX7_sum 20 = .ok (.iconst 0, 1) := dk_3 (blk_at bk_cX7_sum_0 20 rfl)
theorem dX7_sum_21 : decode cX7_sum 21 = .ok (.istore 4, 2) := dq_54 bk_cX7_sum_0 21 rfl rfl
theorem dX7_sum_23 : decode cX7_sum 23 = .ok (.iload 4, 2) := dq_21 bk_cX7_sum_0 23 rfl rfl
theorem dX7_sum_25 : decode cX7_sum 25 = .ok (.aload_n 0, 1) := dk_42 (blk_at bk_cX7_sum_0 25 rfl)
theorem dX7_sum_26 : decode cX7_sum 26 = .ok (.getfield 20, 3) := dq_180 bk_cX7_sum_0 26 rfl rfl
theorem dX7_sum_29 : decode cX7_sum 29 = .ok (.getfield 97, 3) := dq_180 bk_cX7_sum_0 29 rfl rfl
theorem dX7_sum_32 : decode cX7_sum 32 = .ok (.if_icmp .ge 46, 3) := dq_162 bk_cX7_sum_0 32 rfl (by decide)
theorem dX7_sum_35 : decode cX7_sum 35 = .ok (.aload_n 0, 1) := dk_42 (blk_at bk_cX7_sum_0 35 rfl)
theorem dX7_sum_36 : decode cX7_sum 36 = .ok (.getfield 20, 3) := dq_180 bk_cX7_sum_0 36 rfl rfl
theorem bk_cX7_sum_39 : (cX7_sum.data.toList.drop 39).take 40 = [180, 0, 135, 21, 4, 50, 180, 0, 139, 27, 160, 0, 23, 29, 42, 180, 0, 20, 180, 0, 135, 21, 4, 50, 28, 182, 0, 163, 184, 0, 255, 96, 62, 132, 4, 1, 167, 255, 204, 29] := by decide +kernel
theorem dX7_sum_39 : decode cX7_sum 39 = .ok (.getfield 135, 3) := dq_180 bk_cX7_sum_39 0 rfl rfl
theorem dX7_sum_42 : decode cX7_sum 42 = .ok (.iload 4, 2) := dq_21 bk_cX7_sum_39 3 rfl rfl
theorem dX7_sum_44 : decode cX7_sum 44 = .ok (.aaload, 1) := dk_50 (blk_at bk_cX7_sum_39 5 rfl)
theorem dX7_sum_45 : decode cX7_sum 45 = .ok (.getfield 139, 3) := dq_180 bk_cX7_sum_39 6 rfl rfl
theorem dX7_sum_48 : decode cX7_sum 48 = .ok (.iload_n 1, 1) := dk_27 (blk_at bk_cX7_sum_39 9 rfl)
theorem dX7_sum_49 : decode cX7_sum 49 = .ok (.if_icmp .ne 23, 3) := dq_160 bk_cX7_sum_39 10 rfl (by decide)
theorem dX7_sum_52 : decode cX7_sum 52 = .ok (.iload_n 3, 1) := dk_29 (blk_at bk_cX7_sum_39 13 rfl)
theorem dX7_sum_53 : decode cX7_sum 53 = .ok (.aload_n 0, 1) := dk_42 (blk_at bk_cX7_sum_39 14 rfl)
theorem dX7_sum_54 : decode cX7_sum 54 = .ok (.getfield 20, 3) := dq_180 bk_cX7_sum_39 15 rfl rfl
theorem dX7_sum_57 : decode cX7_sum 57 = .ok (.getfield 135, 3) := dq_180 bk_cX7_sum_39 18 rfl rfl
theorem dX7_sum_60 : decode cX7_sum 60 = .ok (.iload 4, 2) := dq_21 bk_cX7_sum_39 21 rfl rfl
theorem dX7_sum_62 : decode cX7_sum 62 = .ok (.aaload, 1) := dk_50 (blk_at bk_cX7_sum_39 23 rfl)
theorem dX7_sum_63 : decode cX7_sum 63 = .ok (.iload_n 2, 1) := dk_28 (blk_at bk_cX7_sum_39 24 rfl)
theorem dX7_sum_64 : decode cX7_sum 64 = .ok (.invokevirtual 163, 3) := dq_182 bk_cX7_sum_39 25 rfl rfl
theorem dX7_sum_67 : decode cX7_sum 67 = .ok (.invokestatic 255, 3) := dq_184 bk_cX7_sum_39 28 rfl rfl
theorem dX7_sum_70 : decode cX7_sum 70 = .ok (.iadd, 1) := dk_96 (blk_at bk_cX7_sum_39 31 rfl)
theorem dX7_sum_71 : decode cX7_sum 71 = .ok (.istore_n 3, 1) := dk_62 (blk_at bk_cX7_sum_39 32 rfl)
theorem dX7_sum_72 : decode cX7_sum 72 = .ok (.iinc 4 1, 3) := dq_132 bk_cX7_sum_39 33 rfl rfl (by decide)
theorem dX7_sum_75 : decode cX7_sum 75 = .ok (.goto (-52), 3) := dq_167 bk_cX7_sum_39 36 rfl (by decide)
theorem dX7_sum_78 : decode cX7_sum 78 = .ok (.iload_n 3, 1) := dk_29 (blk_at bk_cX7_sum_39 39 rfl)
theorem bk_cX7_sum_79 : (cX7_sum.data.toList.drop 79).take 1 = [172] := by decide +kernel
theorem dX7_sum_79 : decode cX7_sum 79 = .ok (.ireturn, 1) := dk_172 (blk_at bk_cX7_sum_79 0 rfl)
theorem bk_cX7_best_0 : (cX7_best.data.toList.drop 0).take 38 = [42, 182, 0, 121, 153, 0, 7, 27, 156, 0, 6, 16, 254, 172, 3, 61, 28, 42, 180, 0, 27, 180, 0, 94, 162, 0, 58, 3, 62, 3, 54, 4, 21, 4, 42, 180, 0, 27] := by decide +kernel
theorem dX7_best_0 : decode cX7_best 0 = .ok (.aload_n 0, 1) := dk_42 (blk_at bk_cX7_best_0 0 rfl)
theorem dX7_best_1 : decode cX7_best 1 = .ok (.invokevirtual 121, 3) := dq_182 bk_cX7_best_0 1 rfl rfl
theorem dX7_best_4 : decode cX7_best 4 = .ok (.ifCond .eq 7, 3) := dq_153 bk_cX7_best_0 4 rfl (by decide)
theorem dX7_best_7 : decode cX7_best 7 = .ok (.iload_n 1, 1) := dk_27 (blk_at bk_cX7_best_0 7 rfl)
theorem dX7_best_8 : decode cX7_best 8 = .ok (.ifCond .ge 6, 3) := dq_156 bk_cX7_best_0 8 rfl (by decide)
theorem dX7_best_11 : decode cX7_best 11 = .ok (.bipush (-2), 2) := dq_16 bk_cX7_best_0 11 rfl (by decide)
theorem dX7_best_13 : decode cX7_best 13 = .ok (.ireturn, 1) := dk_172 (blk_at bk_cX7_best_0 13 rfl)
theorem dX7_best_14 : decode cX7_best 14 = .ok (.iconst 0, 1) := dk_3 (blk_at bk_cX7_best_0 14 rfl)
theorem dX7_best_15 : decode cX7_best 15 = .ok (.istore_n 2, 1) := dk_61 (blk_at bk_cX7_best_0 15 rfl)
theorem dX7_best_16 : decode cX7_best 16 = .ok (.iload_n 2, 1) := dk_28 (blk_at bk_cX7_best_0 16 rfl)
theorem dX7_best_17 : decode cX7_best 17 = .ok (.aload_n 0, 1) := dk_42 (blk_at bk_cX7_best_0 17 rfl)
theorem dX7_best_18 : decode cX7_best 18 = .ok (.getfield 27, 3) := dq_180 bk_cX7_best_0 18 rfl rfl
theorem dX7_best_21 : decode cX7_best 21 = .ok (.getfield 94, 3) := dq_180 bk_cX7_best_0 21 rfl rfl
theorem dX7_best_24 : decode cX7_best 24 = .ok (.if_icmp .ge 58, 3) := dq_162 bk_cX7_best_0 24 rfl (by decide)
theorem dX7_best_27 : decode cX7_best 27 = .ok (.iconst 0, 1) := dk_3 (blk_at bk_cX7_best_0 27 rfl)
theorem dX7_best_28 : decode cX7_best 28 = .ok (.istore_n 3, 1) := dk_62 (blk_at bk_cX7_best_0 28 rfl)
theorem dX7_best_29 : decode cX7_best 29 = .ok (.iconst 0, 1) := dk_3 (blk_at bk_cX7_best_0 29 rfl)
theorem dX7_best_30 : decode cX7_best 30 = .ok (.istore 4, 2) := dq_54 bk_cX7_best_0 30 rfl rfl
theorem dX7_best_32 : decode cX7_best 32 = .ok (.iload 4, 2) := dq_21 bk_cX7_best_0 32 rfl rfl
theorem dX7_best_34 : decode cX7_best 34 = .ok (.aload_n 0, 1) := dk_42 (blk_at bk_cX7_best_0 34 rfl)
theorem dX7_best_35 : decode cX7_best 35 = .ok (.getfield 27, 3) := dq_180 bk_cX7_best_0 35 rfl rfl
theorem bk_cX7_best_38 : (cX7_best.data.toList.drop 38).take 38 = [180, 0, 94, 162, 0, 28, 21, 4, 28, 159, 0, 16, 42, 21, 4, 28, 182, 1, 4, 153, 0, 6, 132, 3, 1, 132, 4, 1, 167, 255, 222, 29, 27, 160, 0, 5, 28, 172] := by decide +kernel
theorem dX7_best_38 : decode cX7_best 38 = .ok (.getfield 94, 3) := dq_180 bk_cX7_best_38 0 rfl rfl
theorem dX7_best_41 : decode cX7_best 41 = .ok (.if_icmp .ge 28, 3) := dq_162 bk_cX7_best_38 3 rfl (by decide)
theorem dX7_best_44 : decode cX7_best 44 = .ok (.iload 4, 2) := dq_21 bk_cX7_best_38 6 rfl rfl
theorem dX7_best_46 : decode cX7_best 46 = .ok (.iload_n 2, 1) := dk_28 (blk_at bk_cX7_best_38 8 rfl)
theorem dX7_best_47 : decode cX7_best 47 = .ok (.if_icmp .eq 16, 3) := dq_159 bk_cX7_best_38 9 rfl (by decide)
theorem dX7_best_50 : decode cX7_best 50 = .ok (.aload_n 0, 1) := dk_42 (blk_at bk_cX7_best_38 12 rfl)
theorem dX7_best_51 : decode cX7_best 51 = .ok (.iload 4, 2) := dq_21 bk_cX7_best_38 13 rfl rfl
theorem dX7_best_53 : decode cX7_best 53 = .ok (.iload_n 2, 1) := dk_28 (blk_at bk_cX7_best_38 15 rfl)
theorem dX7_best_54 : decode cX7_best 54 = .ok (.invokevirtual 260, 3) := dq_182 bk_cX7_best_38 16 rfl rfl
theorem dX7_best_57 : decode cX7_best 57 = .ok (.ifCond .eq 6, 3) := dq_153 bk_cX7_best_38 19 rfl (by decide)
theorem dX7_best_60 : decode cX7_best 60 = .ok (.iinc 3 1, 3) := dq_132 bk_cX7_best_38 22 rfl rfl (by decide)
theorem dX7_best_63 : decode cX7_best 63 = .ok (.iinc 4 1, 3) := dq_132 bk_cX7_best_38 25 rfl rfl (by decide)
theorem dX7_best_66 : decode cX7_best 66 = .ok (.goto (-34), 3) := dq_167 bk_cX7_best_38 28 rfl (by decide)
theorem dX7_best_69 : decode cX7_best 69 = .ok (.iload_n 3, 1) := dk_29 (blk_at bk_cX7_best_38 31 rfl)
theorem dX7_best_70 : decode cX7_best 70 = .ok (.iload_n 1, 1) := dk_27 (blk_at bk_cX7_best_38 32 rfl)
theorem dX7_best_71 : decode cX7_best 71 = .ok (.if_icmp .ne 5, 3) := dq_160 bk_cX7_best_38 33 rfl (by decide)
theorem dX7_best_74 : decode cX7_best 74 = .ok (.iload_n 2, 1) := dk_28 (blk_at bk_cX7_best_38 36 rfl)
theorem dX7_best_75 : decode cX7_best 75 = .ok (.ireturn, 1) := dk_172 (blk_at bk_cX7_best_38 37 rfl)
theorem bk_cX7_best_76 : (cX7_best.data.toList.drop 76).take 8 = [132, 2, 1, 167, 255, 193, 2, 172] := by decide +kernel
theorem dX7_best_76 : decode cX7_best 76 = .ok (.iinc 2 1, 3) := dq_132 bk_cX7_best_76 0 rfl rfl (by decide)
theorem dX7_best_79 : decode cX7_best 79 = .ok (.goto (-63), 3) := dq_167 bk_cX7_best_76 3 rfl (by decide)
theorem dX7_best_82 : decode cX7_best 82 = .ok (.iconst (-1), 1) := dk_2 (blk_at bk_cX7_best_76 6 rfl)
theorem dX7_best_83 : decode cX7_best 83 = .ok (.ireturn, 1) := dk_172 (blk_at bk_cX7_best_76 7 rfl)
theorem bk_cX7_most_0 : (cX7_most.data.toList.drop 0).take 40 = [42, 27, 182, 0, 245, 153, 0, 7, 28, 156, 0, 6, 16, 254, 172, 3, 62, 29, 42, 180, 0, 27, 180, 0, 94, 162, 0, 87, 42, 180, 0, 20, 29, 27, 182, 1, 7, 54, 4, 3] := by decide +kernel
theorem dX7_most_0 : decode cX7_most 0 = .ok (.aload_n 0, 1) := dk_42 (blk_at bk_cX7_most_0 0 rfl)
theorem dX7_most_1 : decode cX7_most 1 = .ok (.iload_n 1, 1) := dk_27 (blk_at bk_cX7_most_0 1 rfl)
theorem dX7_most_2 : decode cX7_most 2 = .ok (.invokevirtual 245, 3) := dq_182 bk_cX7_most_0 2 rfl rfl
theorem dX7_most_5 : decode cX7_most 5 = .ok (.ifCond .eq 7, 3) := dq_153 bk_cX7_most_0 5 rfl (by decide)
theorem dX7_most_8 : decode cX7_most 8 = .ok (.iload_n 2, 1) := dk_28 (blk_at bk_cX7_most_0 8 rfl)
theorem dX7_most_9 : decode cX7_most 9 = .ok (.ifCond .ge 6, 3) := dq_156 bk_cX7_most_0 9 rfl (by decide)
theorem dX7_most_12 : decode cX7_most 12 = .ok (.bipush (-2), 2) := dq_16 bk_cX7_most_0 12 rfl (by decide)
theorem dX7_most_14 : decode cX7_most 14 = .ok (.ireturn, 1) := dk_172 (blk_at bk_cX7_most_0 14 rfl)
theorem dX7_most_15 : decode cX7_most 15 = .ok (.iconst 0, 1) := dk_3 (blk_at bk_cX7_most_0 15 rfl)
theorem dX7_most_16 : decode cX7_most 16 = .ok (.istore_n 3, 1) := dk_62 (blk_at bk_cX7_most_0 16 rfl)
theorem dX7_most_17 : decode cX7_most 17 = .ok (.iload_n 3, 1) := dk_29 (blk_at bk_cX7_most_0 17 rfl)
theorem dX7_most_18 : decode cX7_most 18 = .ok (.aload_n 0, 1) := dk_42 (blk_at bk_cX7_most_0 18 rfl)
theorem dX7_most_19 : decode cX7_most 19 = .ok (.getfield 27, 3) := dq_180 bk_cX7_most_0 19 rfl rfl
theorem dX7_most_22 : decode cX7_most 22 = .ok (.getfield 94, 3) := dq_180 bk_cX7_most_0 22 rfl rfl
theorem dX7_most_25 : decode cX7_most 25 = .ok (.if_icmp .ge 87, 3) := dq_162 bk_cX7_most_0 25 rfl (by decide)
theorem dX7_most_28 : decode cX7_most 28 = .ok (.aload_n 0, 1) := dk_42 (blk_at bk_cX7_most_0 28 rfl)
theorem dX7_most_29 : decode cX7_most 29 = .ok (.getfield 20, 3) := dq_180 bk_cX7_most_0 29 rfl rfl
theorem dX7_most_32 : decode cX7_most 32 = .ok (.iload_n 3, 1) := dk_29 (blk_at bk_cX7_most_0 32 rfl)
theorem dX7_most_33 : decode cX7_most 33 = .ok (.iload_n 1, 1) := dk_27 (blk_at bk_cX7_most_0 33 rfl)
theorem dX7_most_34 : decode cX7_most 34 = .ok (.invokevirtual 263, 3) := dq_182 bk_cX7_most_0 34 rfl rfl
theorem dX7_most_37 : decode cX7_most 37 = .ok (.istore 4, 2) := dq_54 bk_cX7_most_0 37 rfl rfl
theorem dX7_most_39 : decode cX7_most 39 = .ok (.iconst 0, 1) := dk_3 (blk_at bk_cX7_most_0 39 rfl)
theorem bk_cX7_most_40 : (cX7_most.data.toList.drop 40).take 40 = [54, 5, 3, 54, 6, 21, 6, 42, 180, 0, 27, 180, 0, 94, 162, 0, 44, 42, 180, 0, 20, 21, 6, 27, 182, 1, 7, 54, 7, 21, 7, 21, 4, 163, 0, 16, 21, 7, 21, 4] := by decide +kernel
theorem dX7_most_40 : decode cX7_most 40 = .ok (.istore 5, 2) := dq_54 bk_cX7_most_40 0 rfl rfl
theorem dX7_most_42 : decode cX7_most 42 = .ok (.iconst 0, 1) := dk_3 (blk_at bk_cX7_most_40 2 rfl)
theorem dX7_most_43 : decode cX7_most 43 = .ok (.istore 6, 2) := dq_54 bk_cX7_most_40 3 rfl rfl
theorem dX7_most_45 : decode cX7_most 45 = .ok (.iload 6, 2) := dq_21 bk_cX7_most_40 5 rfl rfl
theorem dX7_most_47 : decode cX7_most 47 = .ok (.aload_n 0, 1) := dk_42 (blk_at bk_cX7_most_40 7 rfl)
theorem dX7_most_48 : decode cX7_most 48 = .ok (.getfield 27, 3) := dq_180 bk_cX7_most_40 8 rfl rfl
theorem dX7_most_51 : decode cX7_most 51 = .ok (.getfield 94, 3) := dq_180 bk_cX7_most_40 11 rfl rfl
theorem dX7_most_54 : decode cX7_most 54 = .ok (.if_icmp .ge 44, 3) := dq_162 bk_cX7_most_40 14 rfl (by decide)
theorem dX7_most_57 : decode cX7_most 57 = .ok (.aload_n 0, 1) := dk_42 (blk_at bk_cX7_most_40 17 rfl)
theorem dX7_most_58 : decode cX7_most 58 = .ok (.getfield 20, 3) := dq_180 bk_cX7_most_40 18 rfl rfl
theorem dX7_most_61 : decode cX7_most 61 = .ok (.iload 6, 2) := dq_21 bk_cX7_most_40 21 rfl rfl
theorem dX7_most_63 : decode cX7_most 63 = .ok (.iload_n 1, 1) := dk_27 (blk_at bk_cX7_most_40 23 rfl)
theorem dX7_most_64 : decode cX7_most 64 = .ok (.invokevirtual 263, 3) := dq_182 bk_cX7_most_40 24 rfl rfl
theorem dX7_most_67 : decode cX7_most 67 = .ok (.istore 7, 2) := dq_54 bk_cX7_most_40 27 rfl rfl
theorem dX7_most_69 : decode cX7_most 69 = .ok (.iload 7, 2) := dq_21 bk_cX7_most_40 29 rfl rfl
theorem dX7_most_71 : decode cX7_most 71 = .ok (.iload 4, 2) := dq_21 bk_cX7_most_40 31 rfl rfl
theorem dX7_most_73 : decode cX7_most 73 = .ok (.if_icmp .gt 16, 3) := dq_163 bk_cX7_most_40 33 rfl (by decide)
theorem dX7_most_76 : decode cX7_most 76 = .ok (.iload 7, 2) := dq_21 bk_cX7_most_40 36 rfl rfl
theorem dX7_most_78 : decode cX7_most 78 = .ok (.iload 4, 2) := dq_21 bk_cX7_most_40 38 rfl rfl
theorem bk_cX7_most_80 : (cX7_most.data.toList.drop 80).take 34 = [160, 0, 12, 21, 6, 29, 162, 0, 6, 132, 5, 1, 132, 6, 1, 167, 255, 206, 21, 5, 28, 160, 0, 5, 29, 172, 132, 3, 1, 167, 255, 164, 2, 172] := by decide +kernel
theorem dX7_most_80 : decode cX7_most 80 = .ok (.if_icmp .ne 12, 3) := dq_160 bk_cX7_most_80 0 rfl (by decide)
theorem dX7_most_83 : decode cX7_most 83 = .ok (.iload 6, 2) := dq_21 bk_cX7_most_80 3 rfl rfl
theorem dX7_most_85 : decode cX7_most 85 = .ok (.iload_n 3, 1) := dk_29 (blk_at bk_cX7_most_80 5 rfl)
theorem dX7_most_86 : decode cX7_most 86 = .ok (.if_icmp .ge 6, 3) := dq_162 bk_cX7_most_80 6 rfl (by decide)
theorem dX7_most_89 : decode cX7_most 89 = .ok (.iinc 5 1, 3) := dq_132 bk_cX7_most_80 9 rfl rfl (by decide)
theorem dX7_most_92 : decode cX7_most 92 = .ok (.iinc 6 1, 3) := dq_132 bk_cX7_most_80 12 rfl rfl (by decide)
theorem dX7_most_95 : decode cX7_most 95 = .ok (.goto (-50), 3) := dq_167 bk_cX7_most_80 15 rfl (by decide)
theorem dX7_most_98 : decode cX7_most 98 = .ok (.iload 5, 2) := dq_21 bk_cX7_most_80 18 rfl rfl
theorem dX7_most_100 : decode cX7_most 100 = .ok (.iload_n 2, 1) := dk_28 (blk_at bk_cX7_most_80 20 rfl)
theorem dX7_most_101 : decode cX7_most 101 = .ok (.if_icmp .ne 5, 3) := dq_160 bk_cX7_most_80 21 rfl (by decide)
theorem dX7_most_104 : decode cX7_most 104 = .ok (.iload_n 3, 1) := dk_29 (blk_at bk_cX7_most_80 24 rfl)
theorem dX7_most_105 : decode cX7_most 105 = .ok (.ireturn, 1) := dk_172 (blk_at bk_cX7_most_80 25 rfl)
theorem dX7_most_106 : decode cX7_most 106 = .ok (.iinc 3 1, 3) := dq_132 bk_cX7_most_80 26 rfl rfl (by decide)
theorem dX7_most_109 : decode cX7_most 109 = .ok (.goto (-92), 3) := dq_167 bk_cX7_most_80 29 rfl (by decide)
theorem dX7_most_112 : decode cX7_most 112 = .ok (.iconst (-1), 1) := dk_2 (blk_at bk_cX7_most_80 32 rfl)
theorem dX7_most_113 : decode cX7_most 113 = .ok (.ireturn, 1) := dk_172 (blk_at bk_cX7_most_80 33 rfl)
theorem bk_cX7_rate_0 : (cX7_rate.data.toList.drop 0).take 39 = [42, 27, 182, 0, 132, 154, 0, 6, 16, 254, 172, 42, 180, 0, 20, 180, 0, 135, 27, 50, 182, 0, 229, 61, 28, 158, 0, 23, 16, 100, 42, 180, 0, 20, 180, 0, 135, 27, 50] := by decide +kernel
theorem dX7_rate_0 : decode cX7_rate 0 = .ok (.aload_n 0, 1) := dk_42 (blk_at bk_cX7_rate_0 0 rfl)
theorem dX7_rate_1 : decode cX7_rate 1 = .ok (.iload_n 1, 1) := dk_27 (blk_at bk_cX7_rate_0 1 rfl)
theorem dX7_rate_2 : decode cX7_rate 2 = .ok (.invokevirtual 132, 3) := dq_182 bk_cX7_rate_0 2 rfl rfl
theorem dX7_rate_5 : decode cX7_rate 5 = .ok (.ifCond .ne 6, 3) := dq_154 bk_cX7_rate_0 5 rfl (by decide)
theorem dX7_rate_8 : decode cX7_rate 8 = .ok (.bipush (-2), 2) := dq_16 bk_cX7_rate_0 8 rfl (by decide)
theorem dX7_rate_10 : decode cX7_rate 10 = .ok (.ireturn, 1) := dk_172 (blk_at bk_cX7_rate_0 10 rfl)
theorem dX7_rate_11 : decode cX7_rate 11 = .ok (.aload_n 0, 1) := dk_42 (blk_at bk_cX7_rate_0 11 rfl)
theorem dX7_rate_12 : decode cX7_rate 12 = .ok (.getfield 20, 3) := dq_180 bk_cX7_rate_0 12 rfl rfl
theorem dX7_rate_15 : decode cX7_rate 15 = .ok (.getfield 135, 3) := dq_180 bk_cX7_rate_0 15 rfl rfl
theorem dX7_rate_18 : decode cX7_rate 18 = .ok (.iload_n 1, 1) := dk_27 (blk_at bk_cX7_rate_0 18 rfl)
theorem dX7_rate_19 : decode cX7_rate 19 = .ok (.aaload, 1) := dk_50 (blk_at bk_cX7_rate_0 19 rfl)
theorem dX7_rate_20 : decode cX7_rate 20 = .ok (.invokevirtual 229, 3) := dq_182 bk_cX7_rate_0 20 rfl rfl
theorem dX7_rate_23 : decode cX7_rate 23 = .ok (.istore_n 2, 1) := dk_61 (blk_at bk_cX7_rate_0 23 rfl)
theorem dX7_rate_24 : decode cX7_rate 24 = .ok (.iload_n 2, 1) := dk_28 (blk_at bk_cX7_rate_0 24 rfl)
theorem dX7_rate_25 : decode cX7_rate 25 = .ok (.ifCond .le 23, 3) := dq_158 bk_cX7_rate_0 25 rfl (by decide)
theorem dX7_rate_28 : decode cX7_rate 28 = .ok (.bipush 100, 2) := dq_16 bk_cX7_rate_0 28 rfl (by decide)
theorem dX7_rate_30 : decode cX7_rate 30 = .ok (.aload_n 0, 1) := dk_42 (blk_at bk_cX7_rate_0 30 rfl)
theorem dX7_rate_31 : decode cX7_rate 31 = .ok (.getfield 20, 3) := dq_180 bk_cX7_rate_0 31 rfl rfl
theorem dX7_rate_34 : decode cX7_rate 34 = .ok (.getfield 135, 3) := dq_180 bk_cX7_rate_0 34 rfl rfl
theorem dX7_rate_37 : decode cX7_rate 37 = .ok (.iload_n 1, 1) := dk_27 (blk_at bk_cX7_rate_0 37 rfl)
theorem dX7_rate_38 : decode cX7_rate 38 = .ok (.aaload, 1) := dk_50 (blk_at bk_cX7_rate_0 38 rfl)
theorem bk_cX7_rate_39 : (cX7_rate.data.toList.drop 39).take 11 = [182, 0, 233, 104, 28, 108, 167, 0, 4, 2, 172] := by decide +kernel
theorem dX7_rate_39 : decode cX7_rate 39 = .ok (.invokevirtual 233, 3) := dq_182 bk_cX7_rate_39 0 rfl rfl
theorem dX7_rate_42 : decode cX7_rate 42 = .ok (.imul, 1) := dk_104 (blk_at bk_cX7_rate_39 3 rfl)
theorem dX7_rate_43 : decode cX7_rate 43 = .ok (.iload_n 2, 1) := dk_28 (blk_at bk_cX7_rate_39 4 rfl)
theorem dX7_rate_44 : decode cX7_rate 44 = .ok (.idiv, 1) := dk_108 (blk_at bk_cX7_rate_39 5 rfl)
theorem dX7_rate_45 : decode cX7_rate 45 = .ok (.goto 4, 3) := dq_167 bk_cX7_rate_39 6 rfl (by decide)
theorem dX7_rate_48 : decode cX7_rate 48 = .ok (.iconst (-1), 1) := dk_2 (blk_at bk_cX7_rate_39 9 rfl)
theorem dX7_rate_49 : decode cX7_rate 49 = .ok (.ireturn, 1) := dk_172 (blk_at bk_cX7_rate_39 10 rfl)
theorem bk_cX7_longest_0 : (cX7_longest.data.toList.drop 0).take 38 = [42, 27, 182, 0, 132, 154, 0, 6, 16, 254, 172, 42, 180, 0, 20, 180, 0, 135, 27, 50, 180, 1, 10, 61, 3, 62, 3, 54, 4, 3, 54, 5, 21, 5, 42, 180, 0, 20] := by decide +kernel
theorem dX7_longest_0 : decode cX7_longest 0 = .ok (.aload_n 0, 1) := dk_42 (blk_at bk_cX7_longest_0 0 rfl)
theorem dX7_longest_1 : decode cX7_longest 1 = .ok (.iload_n 1, 1) := dk_27 (blk_at bk_cX7_longest_0 1 rfl)
theorem dX7_longest_2 : decode cX7_longest 2 = .ok (.invokevirtual 132, 3) := dq_182 bk_cX7_longest_0 2 rfl rfl
theorem dX7_longest_5 : decode cX7_longest 5 = .ok (.ifCond .ne 6, 3) := dq_154 bk_cX7_longest_0 5 rfl (by decide)
theorem dX7_longest_8 : decode cX7_longest 8 = .ok (.bipush (-2), 2) := dq_16 bk_cX7_longest_0 8 rfl (by decide)
theorem dX7_longest_10 : decode cX7_longest 10 = .ok (.ireturn, 1) := dk_172 (blk_at bk_cX7_longest_0 10 rfl)
theorem dX7_longest_11 : decode cX7_longest 11 = .ok (.aload_n 0, 1) := dk_42 (blk_at bk_cX7_longest_0 11 rfl)
theorem dX7_longest_12 : decode cX7_longest 12 = .ok (.getfield 20, 3) := dq_180 bk_cX7_longest_0 12 rfl rfl
theorem dX7_longest_15 : decode cX7_longest 15 = .ok (.getfield 135, 3) := dq_180 bk_cX7_longest_0 15 rfl rfl
theorem dX7_longest_18 : decode cX7_longest 18 = .ok (.iload_n 1, 1) := dk_27 (blk_at bk_cX7_longest_0 18 rfl)
theorem dX7_longest_19 : decode cX7_longest 19 = .ok (.aaload, 1) := dk_50 (blk_at bk_cX7_longest_0 19 rfl)
theorem dX7_longest_20 : decode cX7_longest 20 = .ok (.getfield 266, 3) := dq_180 bk_cX7_longest_0 20 rfl rfl
theorem dX7_longest_23 : decode cX7_longest 23 = .ok (.istore_n 2, 1) := dk_61 (blk_at bk_cX7_longest_0 23 rfl)
theorem dX7_longest_24 : decode cX7_longest 24 = .ok (.iconst 0, 1) := dk_3 (blk_at bk_cX7_longest_0 24 rfl)
theorem dX7_longest_25 : decode cX7_longest 25 = .ok (.istore_n 3, 1) := dk_62 (blk_at bk_cX7_longest_0 25 rfl)
theorem dX7_longest_26 : decode cX7_longest 26 = .ok (.iconst 0, 1) := dk_3 (blk_at bk_cX7_longest_0 26 rfl)
theorem dX7_longest_27 : decode cX7_longest 27 = .ok (.istore 4, 2) := dq_54 bk_cX7_longest_0 27 rfl rfl
theorem dX7_longest_29 : decode cX7_longest 29 = .ok (.iconst 0, 1) := dk_3 (blk_at bk_cX7_longest_0 29 rfl)
theorem dX7_longest_30 : decode cX7_longest 30 = .ok (.istore 5, 2) := dq_54 bk_cX7_longest_0 30 rfl rfl
theorem dX7_longest_32 : decode cX7_longest 32 = .ok (.iload 5, 2) := dq_21 bk_cX7_longest_0 32 rfl rfl
theorem dX7_longest_34 : decode cX7_longest 34 = .ok (.aload_n 0, 1) := dk_42 (blk_at bk_cX7_longest_0 34 rfl)
theorem dX7_longest_35 : decode cX7_longest 35 = .ok (.getfield 20, 3) := dq_180 bk_cX7_longest_0 35 rfl rfl
theorem bk_cX7_longest_38 : (cX7_longest.data.toList.drop 38).take 40 = [180, 0, 91, 162, 0, 35, 28, 21, 5, 184, 1, 13, 153, 0, 10, 21, 4, 4, 96, 167, 0, 4, 3, 54, 4, 29, 21, 4, 184, 0, 226, 62, 132, 5, 1, 167, 255, 215, 29, 172] := by decide +kernel
theorem dX7_longest_38 : decode cX7_longest 38 = .ok (.getfield 91, 3) := dq_180 bk_cX7_longest_38 0 rfl rfl
theorem dX7_longest_41 : decode cX7_longest 41 = .ok (.if_icmp .ge 35, 3) := dq_162 bk_cX7_longest_38 3 rfl (by decide)
theorem dX7_longest_44 : decode cX7_longest 44 = .ok (.iload_n 2, 1) := dk_28 (blk_at bk_cX7_longest_38 6 rfl)
theorem dX7_longest_45 : decode cX7_longest 45 = .ok (.iload 5, 2) := dq_21 bk_cX7_longest_38 7 rfl rfl
theorem dX7_longest_47 : decode cX7_longest 47 = .ok (.invokestatic 269, 3) := dq_184 bk_cX7_longest_38 9 rfl rfl
theorem dX7_longest_50 : decode cX7_longest 50 = .ok (.ifCond .eq 10, 3) := dq_153 bk_cX7_longest_38 12 rfl (by decide)
theorem dX7_longest_53 : decode cX7_longest 53 = .ok (.iload 4, 2) := dq_21 bk_cX7_longest_38 15 rfl rfl
theorem dX7_longest_55 : decode cX7_longest 55 = .ok (.iconst 1, 1) := dk_4 (blk_at bk_cX7_longest_38 17 rfl)
theorem dX7_longest_56 : decode cX7_longest 56 = .ok (.iadd, 1) := dk_96 (blk_at bk_cX7_longest_38 18 rfl)
theorem dX7_longest_57 : decode cX7_longest 57 = .ok (.goto 4, 3) := dq_167 bk_cX7_longest_38 19 rfl (by decide)
theorem dX7_longest_60 : decode cX7_longest 60 = .ok (.iconst 0, 1) := dk_3 (blk_at bk_cX7_longest_38 22 rfl)
theorem dX7_longest_61 : decode cX7_longest 61 = .ok (.istore 4, 2) := dq_54 bk_cX7_longest_38 23 rfl rfl
theorem dX7_longest_63 : decode cX7_longest 63 = .ok (.iload_n 3, 1) := dk_29 (blk_at bk_cX7_longest_38 25 rfl)
theorem dX7_longest_64 : decode cX7_longest 64 = .ok (.iload 4, 2) := dq_21 bk_cX7_longest_38 26 rfl rfl
theorem dX7_longest_66 : decode cX7_longest 66 = .ok (.invokestatic 226, 3) := dq_184 bk_cX7_longest_38 28 rfl rfl
theorem dX7_longest_69 : decode cX7_longest 69 = .ok (.istore_n 3, 1) := dk_62 (blk_at bk_cX7_longest_38 31 rfl)
theorem dX7_longest_70 : decode cX7_longest 70 = .ok (.iinc 5 1, 3) := dq_132 bk_cX7_longest_38 32 rfl rfl (by decide)
theorem dX7_longest_73 : decode cX7_longest 73 = .ok (.goto (-41), 3) := dq_167 bk_cX7_longest_38 35 rfl (by decide)
theorem dX7_longest_76 : decode cX7_longest 76 = .ok (.iload_n 3, 1) := dk_29 (blk_at bk_cX7_longest_38 38 rfl)
theorem dX7_longest_77 : decode cX7_longest 77 = .ok (.ireturn, 1) := dk_172 (blk_at bk_cX7_longest_38 39 rfl)
theorem bk_cX7_kept_0 : (cX7_kept.data.toList.drop 0).take 38 = [42, 182, 0, 121, 153, 0, 12, 27, 3, 4, 184, 0, 113, 154, 0, 6, 16, 254, 172, 3, 61, 3, 62, 29, 42, 180, 0, 20, 180, 0, 97, 162, 0, 49, 42, 180, 0, 20] := by decide +kernel
theorem dX7_kept_0 : decode cX7_kept 0 = .ok (.aload_n 0, 1) := dk_42 (blk_at bk_cX7_kept_0 0 rfl)
theorem dX7_kept_1 : decode cX7_kept 1 = .ok (.invokevirtual 121, 3) := dq_182 bk_cX7_kept_0 1 rfl rfl
theorem dX7_kept_4 : decode cX7_kept 4 = .ok (.ifCond .eq 12, 3) := dq_153 bk_cX7_kept_0 4 rfl (by decide)
theorem dX7_kept_7 : decode cX7_kept 7 = .ok (.iload_n 1, 1) := dk_27 (blk_at bk_cX7_kept_0 7 rfl)
theorem dX7_kept_8 : decode cX7_kept 8 = .ok (.iconst 0, 1) := dk_3 (blk_at bk_cX7_kept_0 8 rfl)
theorem dX7_kept_9 : decode cX7_kept 9 = .ok (.iconst 1, 1) := dk_4 (blk_at bk_cX7_kept_0 9 rfl)
theorem dX7_kept_10 : decode cX7_kept 10 = .ok (.invokestatic 113, 3) := dq_184 bk_cX7_kept_0 10 rfl rfl
theorem dX7_kept_13 : decode cX7_kept 13 = .ok (.ifCond .ne 6, 3) := dq_154 bk_cX7_kept_0 13 rfl (by decide)
theorem dX7_kept_16 : decode cX7_kept 16 = .ok (.bipush (-2), 2) := dq_16 bk_cX7_kept_0 16 rfl (by decide)
theorem dX7_kept_18 : decode cX7_kept 18 = .ok (.ireturn, 1) := dk_172 (blk_at bk_cX7_kept_0 18 rfl)
theorem dX7_kept_19 : decode cX7_kept 19 = .ok (.iconst 0, 1) := dk_3 (blk_at bk_cX7_kept_0 19 rfl)
theorem dX7_kept_20 : decode cX7_kept 20 = .ok (.istore_n 2, 1) := dk_61 (blk_at bk_cX7_kept_0 20 rfl)
theorem dX7_kept_21 : decode cX7_kept 21 = .ok (.iconst 0, 1) := dk_3 (blk_at bk_cX7_kept_0 21 rfl)
theorem dX7_kept_22 : decode cX7_kept 22 = .ok (.istore_n 3, 1) := dk_62 (blk_at bk_cX7_kept_0 22 rfl)
theorem dX7_kept_23 : decode cX7_kept 23 = .ok (.iload_n 3, 1) := dk_29 (blk_at bk_cX7_kept_0 23 rfl)
theorem dX7_kept_24 : decode cX7_kept 24 = .ok (.aload_n 0, 1) := dk_42 (blk_at bk_cX7_kept_0 24 rfl)
theorem dX7_kept_25 : decode cX7_kept 25 = .ok (.getfield 20, 3) := dq_180 bk_cX7_kept_0 25 rfl rfl
theorem dX7_kept_28 : decode cX7_kept 28 = .ok (.getfield 97, 3) := dq_180 bk_cX7_kept_0 28 rfl rfl
theorem dX7_kept_31 : decode cX7_kept 31 = .ok (.if_icmp .ge 49, 3) := dq_162 bk_cX7_kept_0 31 rfl (by decide)
theorem dX7_kept_34 : decode cX7_kept 34 = .ok (.aload_n 0, 1) := dk_42 (blk_at bk_cX7_kept_0 34 rfl)
theorem dX7_kept_35 : decode cX7_kept 35 = .ok (.getfield 20, 3) := dq_180 bk_cX7_kept_0 35 rfl rfl
theorem bk_cX7_kept_38 : (cX7_kept.data.toList.drop 38).take 39 = [180, 0, 135, 29, 50, 58, 4, 27, 154, 0, 14, 25, 4, 182, 0, 236, 153, 0, 20, 167, 0, 11, 25, 4, 182, 0, 239, 153, 0, 9, 28, 4, 29, 120, 128, 61, 132, 3, 1] := by decide +kernel
theorem dX7_kept_38 : decode cX7_kept 38 = .ok (.getfield 135, 3) := dq_180 bk_cX7_kept_38 0 rfl rfl
theorem dX7_kept_41 : decode cX7_kept 41 = .ok (.iload_n 3, 1) := dk_29 (blk_at bk_cX7_kept_38 3 rfl)
theorem dX7_kept_42 : decode cX7_kept 42 = .ok (.aaload, 1) := dk_50 (blk_at bk_cX7_kept_38 4 rfl)
theorem dX7_kept_43 : decode cX7_kept 43 = .ok (.astore 4, 2) := dq_58 bk_cX7_kept_38 5 rfl rfl
theorem dX7_kept_45 : decode cX7_kept 45 = .ok (.iload_n 1, 1) := dk_27 (blk_at bk_cX7_kept_38 7 rfl)
theorem dX7_kept_46 : decode cX7_kept 46 = .ok (.ifCond .ne 14, 3) := dq_154 bk_cX7_kept_38 8 rfl (by decide)
theorem dX7_kept_49 : decode cX7_kept 49 = .ok (.aload 4, 2) := dq_25 bk_cX7_kept_38 11 rfl rfl
theorem dX7_kept_51 : decode cX7_kept 51 = .ok (.invokevirtual 236, 3) := dq_182 bk_cX7_kept_38 13 rfl rfl
theorem dX7_kept_54 : decode cX7_kept 54 = .ok (.ifCond .eq 20, 3) := dq_153 bk_cX7_kept_38 16 rfl (by decide)
theorem dX7_kept_57 : decode cX7_kept 57 = .ok (.goto 11, 3) := dq_167 bk_cX7_kept_38 19 rfl (by decide)
theorem dX7_kept_60 : decode cX7_kept 60 = .ok (.aload 4, 2) := dq_25 bk_cX7_kept_38 22 rfl rfl
theorem dX7_kept_62 : decode cX7_kept 62 = .ok (.invokevirtual 239, 3) := dq_182 bk_cX7_kept_38 24 rfl rfl
theorem dX7_kept_65 : decode cX7_kept 65 = .ok (.ifCond .eq 9, 3) := dq_153 bk_cX7_kept_38 27 rfl (by decide)
theorem dX7_kept_68 : decode cX7_kept 68 = .ok (.iload_n 2, 1) := dk_28 (blk_at bk_cX7_kept_38 30 rfl)
theorem dX7_kept_69 : decode cX7_kept 69 = .ok (.iconst 1, 1) := dk_4 (blk_at bk_cX7_kept_38 31 rfl)
theorem dX7_kept_70 : decode cX7_kept 70 = .ok (.iload_n 3, 1) := dk_29 (blk_at bk_cX7_kept_38 32 rfl)
theorem dX7_kept_71 : decode cX7_kept 71 = .ok (.ishl, 1) := dk_120 (blk_at bk_cX7_kept_38 33 rfl)
theorem dX7_kept_72 : decode cX7_kept 72 = .ok (.ior, 1) := dk_128 (blk_at bk_cX7_kept_38 34 rfl)
theorem dX7_kept_73 : decode cX7_kept 73 = .ok (.istore_n 2, 1) := dk_61 (blk_at bk_cX7_kept_38 35 rfl)
theorem dX7_kept_74 : decode cX7_kept 74 = .ok (.iinc 3 1, 3) := dq_132 bk_cX7_kept_38 36 rfl rfl (by decide)
theorem bk_cX7_kept_77 : (cX7_kept.data.toList.drop 77).take 5 = [167, 255, 202, 28, 172] := by decide +kernel
theorem dX7_kept_77 : decode cX7_kept 77 = .ok (.goto (-54), 3) := dq_167 bk_cX7_kept_77 0 rfl (by decide)
theorem dX7_kept_80 : decode cX7_kept 80 = .ok (.iload_n 2, 1) := dk_28 (blk_at bk_cX7_kept_77 3 rfl)
theorem dX7_kept_81 : decode cX7_kept 81 = .ok (.ireturn, 1) := dk_172 (blk_at bk_cX7_kept_77 4 rfl)
theorem bk_cX7_common_0 : (cX7_common.data.toList.drop 0).take 40 = [42, 27, 182, 0, 132, 153, 0, 11, 42, 28, 182, 0, 132, 154, 0, 6, 16, 254, 172, 42, 180, 0, 20, 180, 0, 135, 27, 50, 78, 42, 180, 0, 20, 180, 0, 135, 28, 50, 58, 4] := by decide +kernel
theorem dX7_common_0 : decode cX7_common 0 = .ok (.aload_n 0, 1) := dk_42 (blk_at bk_cX7_common_0 0 rfl)
theorem dX7_common_1 : decode cX7_common 1 = .ok (.iload_n 1, 1) := dk_27 (blk_at bk_cX7_common_0 1 rfl)
theorem dX7_common_2 : decode cX7_common 2 = .ok (.invokevirtual 132, 3) := dq_182 bk_cX7_common_0 2 rfl rfl
theorem dX7_common_5 : decode cX7_common 5 = .ok (.ifCond .eq 11, 3) := dq_153 bk_cX7_common_0 5 rfl (by decide)
theorem dX7_common_8 : decode cX7_common 8 = .ok (.aload_n 0, 1) := dk_42 (blk_at bk_cX7_common_0 8 rfl)
theorem dX7_common_9 : decode cX7_common 9 = .ok (.iload_n 2, 1) := dk_28 (blk_at bk_cX7_common_0 9 rfl)
theorem dX7_common_10 : decode cX7_common 10 = .ok (.invokevirtual 132, 3) := dq_182 bk_cX7_common_0 10 rfl rfl
theorem dX7_common_13 : decode cX7_common 13 = .ok (.ifCond .ne 6, 3) := dq_154 bk_cX7_common_0 13 rfl (by decide)
theorem dX7_common_16 : decode cX7_common 16 = .ok (.bipush (-2), 2) := dq_16 bk_cX7_common_0 16 rfl (by decide)
theorem dX7_common_18 : decode cX7_common 18 = .ok (.ireturn, 1) := dk_172 (blk_at bk_cX7_common_0 18 rfl)
theorem dX7_common_19 : decode cX7_common 19 = .ok (.aload_n 0, 1) := dk_42 (blk_at bk_cX7_common_0 19 rfl)
theorem dX7_common_20 : decode cX7_common 20 = .ok (.getfield 20, 3) := dq_180 bk_cX7_common_0 20 rfl rfl
theorem dX7_common_23 : decode cX7_common 23 = .ok (.getfield 135, 3) := dq_180 bk_cX7_common_0 23 rfl rfl
theorem dX7_common_26 : decode cX7_common 26 = .ok (.iload_n 1, 1) := dk_27 (blk_at bk_cX7_common_0 26 rfl)
theorem dX7_common_27 : decode cX7_common 27 = .ok (.aaload, 1) := dk_50 (blk_at bk_cX7_common_0 27 rfl)
theorem dX7_common_28 : decode cX7_common 28 = .ok (.astore_n 3, 1) := dk_78 (blk_at bk_cX7_common_0 28 rfl)
theorem dX7_common_29 : decode cX7_common 29 = .ok (.aload_n 0, 1) := dk_42 (blk_at bk_cX7_common_0 29 rfl)
theorem dX7_common_30 : decode cX7_common 30 = .ok (.getfield 20, 3) := dq_180 bk_cX7_common_0 30 rfl rfl
theorem dX7_common_33 : decode cX7_common 33 = .ok (.getfield 135, 3) := dq_180 bk_cX7_common_0 33 rfl rfl
theorem dX7_common_36 : decode cX7_common 36 = .ok (.iload_n 2, 1) := dk_28 (blk_at bk_cX7_common_0 36 rfl)
theorem dX7_common_37 : decode cX7_common 37 = .ok (.aaload, 1) := dk_50 (blk_at bk_cX7_common_0 37 rfl)
theorem dX7_common_38 : decode cX7_common 38 = .ok (.astore 4, 2) := dq_58 bk_cX7_common_0 38 rfl rfl
theorem bk_cX7_common_40 : (cX7_common.data.toList.drop 40).take 40 = [45, 180, 0, 144, 25, 4, 180, 0, 144, 160, 0, 15, 45, 180, 0, 147, 25, 4, 180, 0, 147, 159, 0, 5, 3, 172, 45, 182, 1, 16, 25, 4, 182, 1, 16, 126, 184, 0, 255, 172] := by decide +kernel
theorem dX7_common_40 : decode cX7_common 40 = .ok (.aload_n 3, 1) := dk_45 (blk_at bk_cX7_common_40 0 rfl)
theorem dX7_common_41 : decode cX7_common 41 = .ok (.getfield 144, 3) := dq_180 bk_cX7_common_40 1 rfl rfl
theorem dX7_common_44 : decode cX7_common 44 = .ok (.aload 4, 2) := dq_25 bk_cX7_common_40 4 rfl rfl
theorem dX7_common_46 : decode cX7_common 46 = .ok (.getfield 144, 3) := dq_180 bk_cX7_common_40 6 rfl rfl
theorem dX7_common_49 : decode cX7_common 49 = .ok (.if_icmp .ne 15, 3) := dq_160 bk_cX7_common_40 9 rfl (by decide)
theorem dX7_common_52 : decode cX7_common 52 = .ok (.aload_n 3, 1) := dk_45 (blk_at bk_cX7_common_40 12 rfl)
theorem dX7_common_53 : decode cX7_common 53 = .ok (.getfield 147, 3) := dq_180 bk_cX7_common_40 13 rfl rfl
theorem dX7_common_56 : decode cX7_common 56 = .ok (.aload 4, 2) := dq_25 bk_cX7_common_40 16 rfl rfl
theorem dX7_common_58 : decode cX7_common 58 = .ok (.getfield 147, 3) := dq_180 bk_cX7_common_40 18 rfl rfl
theorem dX7_common_61 : decode cX7_common 61 = .ok (.if_icmp .eq 5, 3) := dq_159 bk_cX7_common_40 21 rfl (by decide)
theorem dX7_common_64 : decode cX7_common 64 = .ok (.iconst 0, 1) := dk_3 (blk_at bk_cX7_common_40 24 rfl)
theorem dX7_common_65 : decode cX7_common 65 = .ok (.ireturn, 1) := dk_172 (blk_at bk_cX7_common_40 25 rfl)
theorem dX7_common_66 : decode cX7_common 66 = .ok (.aload_n 3, 1) := dk_45 (blk_at bk_cX7_common_40 26 rfl)
theorem dX7_common_67 : decode cX7_common 67 = .ok (.invokevirtual 272, 3) := dq_182 bk_cX7_common_40 27 rfl rfl
theorem dX7_common_70 : decode cX7_common 70 = .ok (.aload 4, 2) := dq_25 bk_cX7_common_40 30 rfl rfl
theorem dX7_common_72 : decode cX7_common 72 = .ok (.invokevirtual 272, 3) := dq_182 bk_cX7_common_40 32 rfl rfl
theorem dX7_common_75 : decode cX7_common 75 = .ok (.iand, 1) := dk_126 (blk_at bk_cX7_common_40 35 rfl)
theorem dX7_common_76 : decode cX7_common 76 = .ok (.invokestatic 255, 3) := dq_184 bk_cX7_common_40 36 rfl rfl
theorem dX7_common_79 : decode cX7_common 79 = .ok (.ireturn, 1) := dk_172 (blk_at bk_cX7_common_40 39 rfl)
theorem bk_cX7_pairs_0 : (cX7_pairs.data.toList.drop 0).take 38 = [42, 27, 182, 0, 109, 153, 0, 21, 42, 28, 182, 0, 245, 153, 0, 13, 29, 3, 16, 23, 184, 0, 113, 154, 0, 6, 16, 254, 172, 3, 54, 4, 3, 54, 5, 21, 5, 42] := by decide +kernel
theorem dX7_pairs_0 : decode cX7_pairs 0 = .ok (.aload_n 0, 1) := dk_42 (blk_at bk_cX7_pairs_0 0 rfl)
theorem dX7_pairs_1 : decode cX7_pairs 1 = .ok (.iload_n 1, 1) := dk_27 (blk_at bk_cX7_pairs_0 1 rfl)
theorem dX7_pairs_2 : decode cX7_pairs 2 = .ok (.invokevirtual 109, 3) := dq_182 bk_cX7_pairs_0 2 rfl rfl
theorem dX7_pairs_5 : decode cX7_pairs 5 = .ok (.ifCond .eq 21, 3) := dq_153 bk_cX7_pairs_0 5 rfl (by decide)
theorem dX7_pairs_8 : decode cX7_pairs 8 = .ok (.aload_n 0, 1) := dk_42 (blk_at bk_cX7_pairs_0 8 rfl)
theorem dX7_pairs_9 : decode cX7_pairs 9 = .ok (.iload_n 2, 1) := dk_28 (blk_at bk_cX7_pairs_0 9 rfl)
theorem dX7_pairs_10 : decode cX7_pairs 10 = .ok (.invokevirtual 245, 3) := dq_182 bk_cX7_pairs_0 10 rfl rfl
theorem dX7_pairs_13 : decode cX7_pairs 13 = .ok (.ifCond .eq 13, 3) := dq_153 bk_cX7_pairs_0 13 rfl (by decide)
theorem dX7_pairs_16 : decode cX7_pairs 16 = .ok (.iload_n 3, 1) := dk_29 (blk_at bk_cX7_pairs_0 16 rfl)
theorem dX7_pairs_17 : decode cX7_pairs 17 = .ok (.iconst 0, 1) := dk_3 (blk_at bk_cX7_pairs_0 17 rfl)
theorem dX7_pairs_18 : decode cX7_pairs 18 = .ok (.bipush 23, 2) := dq_16 bk_cX7_pairs_0 18 rfl (by decide)
theorem dX7_pairs_20 : decode cX7_pairs 20 = .ok (.invokestatic 113, 3) := dq_184 bk_cX7_pairs_0 20 rfl rfl
theorem dX7_pairs_23 : decode cX7_pairs 23 = .ok (.ifCond .ne 6, 3) := dq_154 bk_cX7_pairs_0 23 rfl (by decide)
theorem dX7_pairs_26 : decode cX7_pairs 26 = .ok (.bipush (-2), 2) := dq_16 bk_cX7_pairs_0 26 rfl (by decide)
theorem dX7_pairs_28 : decode cX7_pairs 28 = .ok (.ireturn, 1) := dk_172 (blk_at bk_cX7_pairs_0 28 rfl)
theorem dX7_pairs_29 : decode cX7_pairs 29 = .ok (.iconst 0, 1) := dk_3 (blk_at bk_cX7_pairs_0 29 rfl)
theorem dX7_pairs_30 : decode cX7_pairs 30 = .ok (.istore 4, 2) := dq_54 bk_cX7_pairs_0 30 rfl rfl
theorem dX7_pairs_32 : decode cX7_pairs 32 = .ok (.iconst 0, 1) := dk_3 (blk_at bk_cX7_pairs_0 32 rfl)
theorem dX7_pairs_33 : decode cX7_pairs 33 = .ok (.istore 5, 2) := dq_54 bk_cX7_pairs_0 33 rfl rfl
theorem dX7_pairs_35 : decode cX7_pairs 35 = .ok (.iload 5, 2) := dq_21 bk_cX7_pairs_0 35 rfl rfl
theorem dX7_pairs_37 : decode cX7_pairs 37 = .ok (.aload_n 0, 1) := dk_42 (blk_at bk_cX7_pairs_0 37 rfl)
theorem bk_cX7_pairs_38 : (cX7_pairs.data.toList.drop 38).take 39 = [180, 0, 20, 180, 0, 97, 162, 0, 51, 42, 180, 0, 20, 180, 0, 135, 21, 5, 50, 58, 6, 25, 6, 27, 28, 182, 0, 248, 153, 0, 23, 25, 6, 180, 0, 150, 154, 0, 15] := by decide +kernel
theorem dX7_pairs_38 : decode cX7_pairs 38 = .ok (.getfield 20, 3) := dq_180 bk_cX7_pairs_38 0 rfl rfl
theorem dX7_pairs_41 : decode cX7_pairs 41 = .ok (.getfield 97, 3) := dq_180 bk_cX7_pairs_38 3 rfl rfl
theorem dX7_pairs_44 : decode cX7_pairs 44 = .ok (.if_icmp .ge 51, 3) := dq_162 bk_cX7_pairs_38 6 rfl (by decide)
theorem dX7_pairs_47 : decode cX7_pairs 47 = .ok (.aload_n 0, 1) := dk_42 (blk_at bk_cX7_pairs_38 9 rfl)
theorem dX7_pairs_48 : decode cX7_pairs 48 = .ok (.getfield 20, 3) := dq_180 bk_cX7_pairs_38 10 rfl rfl
theorem dX7_pairs_51 : decode cX7_pairs 51 = .ok (.getfield 135, 3) := dq_180 bk_cX7_pairs_38 13 rfl rfl
theorem dX7_pairs_54 : decode cX7_pairs 54 = .ok (.iload 5, 2) := dq_21 bk_cX7_pairs_38 16 rfl rfl
theorem dX7_pairs_56 : decode cX7_pairs 56 = .ok (.aaload, 1) := dk_50 (blk_at bk_cX7_pairs_38 18 rfl)
theorem dX7_pairs_57 : decode cX7_pairs 57 = .ok (.astore 6, 2) := dq_58 bk_cX7_pairs_38 19 rfl rfl
theorem dX7_pairs_59 : decode cX7_pairs 59 = .ok (.aload 6, 2) := dq_25 bk_cX7_pairs_38 21 rfl rfl
theorem dX7_pairs_61 : decode cX7_pairs 61 = .ok (.iload_n 1, 1) := dk_27 (blk_at bk_cX7_pairs_38 23 rfl)
theorem dX7_pairs_62 : decode cX7_pairs 62 = .ok (.iload_n 2, 1) := dk_28 (blk_at bk_cX7_pairs_38 24 rfl)
theorem dX7_pairs_63 : decode cX7_pairs 63 = .ok (.invokevirtual 248, 3) := dq_182 bk_cX7_pairs_38 25 rfl rfl
theorem dX7_pairs_66 : decode cX7_pairs 66 = .ok (.ifCond .eq 23, 3) := dq_153 bk_cX7_pairs_38 28 rfl (by decide)
theorem dX7_pairs_69 : decode cX7_pairs 69 = .ok (.aload 6, 2) := dq_25 bk_cX7_pairs_38 31 rfl rfl
theorem dX7_pairs_71 : decode cX7_pairs 71 = .ok (.getfield 150, 3) := dq_180 bk_cX7_pairs_38 33 rfl rfl
theorem dX7_pairs_74 : decode cX7_pairs 74 = .ok (.ifCond .ne 15, 3) := dq_154 bk_cX7_pairs_38 36 rfl (by decide)
theorem bk_cX7_pairs_77 : (cX7_pairs.data.toList.drop 77).take 21 = [21, 4, 42, 25, 6, 29, 182, 1, 19, 96, 54, 4, 132, 5, 1, 167, 255, 199, 21, 4, 172] := by decide +kernel
theorem dX7_pairs_77 : decode cX7_pairs 77 = .ok (.iload 4, 2) := dq_21 bk_cX7_pairs_77 0 rfl rfl
theorem dX7_pairs_79 : decode cX7_pairs 79 = .ok (.aload_n 0, 1) := dk_42 (blk_at bk_cX7_pairs_77 2 rfl)
theorem dX7_pairs_80 : decode cX7_pairs 80 = .ok (.aload 6, 2) := dq_25 bk_cX7_pairs_77 3 rfl rfl
theorem dX7_pairs_82 : decode cX7_pairs 82 = .ok (.iload_n 3, 1) := dk_29 (blk_at bk_cX7_pairs_77 5 rfl)
theorem dX7_pairs_83 : decode cX7_pairs 83 = .ok (.invokevirtual 275, 3) := dq_182 bk_cX7_pairs_77 6 rfl rfl
theorem dX7_pairs_86 : decode cX7_pairs 86 = .ok (.iadd, 1) := dk_96 (blk_at bk_cX7_pairs_77 9 rfl)
theorem dX7_pairs_87 : decode cX7_pairs 87 = .ok (.istore 4, 2) := dq_54 bk_cX7_pairs_77 10 rfl rfl
theorem dX7_pairs_89 : decode cX7_pairs 89 = .ok (.iinc 5 1, 3) := dq_132 bk_cX7_pairs_77 12 rfl rfl (by decide)
theorem dX7_pairs_92 : decode cX7_pairs 92 = .ok (.goto (-57), 3) := dq_167 bk_cX7_pairs_77 15 rfl (by decide)
theorem dX7_pairs_95 : decode cX7_pairs 95 = .ok (.iload 4, 2) := dq_21 bk_cX7_pairs_77 18 rfl rfl
theorem dX7_pairs_97 : decode cX7_pairs 97 = .ok (.ireturn, 1) := dk_172 (blk_at bk_cX7_pairs_77 20 rfl)
theorem bk_cX7_peak_0 : (cX7_peak.data.toList.drop 0).take 40 = [42, 182, 0, 121, 153, 0, 12, 27, 3, 4, 184, 0, 113, 154, 0, 6, 16, 254, 172, 42, 180, 0, 20, 182, 1, 23, 153, 0, 5, 2, 172, 3, 61, 17, 3, 232, 42, 180, 0, 20] := by decide +kernel
theorem dX7_peak_0 : decode cX7_peak 0 = .ok (.aload_n 0, 1) := dk_42 (blk_at bk_cX7_peak_0 0 rfl)
theorem dX7_peak_1 : decode cX7_peak 1 = .ok (.invokevirtual 121, 3) := dq_182 bk_cX7_peak_0 1 rfl rfl
theorem dX7_peak_4 : decode cX7_peak 4 = .ok (.ifCond .eq 12, 3) := dq_153 bk_cX7_peak_0 4 rfl (by decide)
theorem dX7_peak_7 : decode cX7_peak 7 = .ok (.iload_n 1, 1) := dk_27 (blk_at bk_cX7_peak_0 7 rfl)
theorem dX7_peak_8 : decode cX7_peak 8 = .ok (.iconst 0, 1) := dk_3 (blk_at bk_cX7_peak_0 8 rfl)
theorem dX7_peak_9 : decode cX7_peak 9 = .ok (.iconst 1, 1) := dk_4 (blk_at bk_cX7_peak_0 9 rfl)
theorem dX7_peak_10 : decode cX7_peak 10 = .ok (.invokestatic 113, 3) := dq_184 bk_cX7_peak_0 10 rfl rfl
theorem dX7_peak_13 : decode cX7_peak 13 = .ok (.ifCond .ne 6, 3) := dq_154 bk_cX7_peak_0 13 rfl (by decide)
theorem dX7_peak_16 : decode cX7_peak 16 = .ok (.bipush (-2), 2) := dq_16 bk_cX7_peak_0 16 rfl (by decide)
theorem dX7_peak_18 : decode cX7_peak 18 = .ok (.ireturn, 1) := dk_172 (blk_at bk_cX7_peak_0 18 rfl)
theorem dX7_peak_19 : decode cX7_peak 19 = .ok (.aload_n 0, 1) := dk_42 (blk_at bk_cX7_peak_0 19 rfl)
theorem dX7_peak_20 : decode cX7_peak 20 = .ok (.getfield 20, 3) := dq_180 bk_cX7_peak_0 20 rfl rfl
theorem dX7_peak_23 : decode cX7_peak 23 = .ok (.invokevirtual 279, 3) := dq_182 bk_cX7_peak_0 23 rfl rfl
theorem dX7_peak_26 : decode cX7_peak 26 = .ok (.ifCond .eq 5, 3) := dq_153 bk_cX7_peak_0 26 rfl (by decide)
theorem dX7_peak_29 : decode cX7_peak 29 = .ok (.iconst (-1), 1) := dk_2 (blk_at bk_cX7_peak_0 29 rfl)
theorem dX7_peak_30 : decode cX7_peak 30 = .ok (.ireturn, 1) := dk_172 (blk_at bk_cX7_peak_0 30 rfl)
theorem dX7_peak_31 : decode cX7_peak 31 = .ok (.iconst 0, 1) := dk_3 (blk_at bk_cX7_peak_0 31 rfl)
theorem dX7_peak_32 : decode cX7_peak 32 = .ok (.istore_n 2, 1) := dk_61 (blk_at bk_cX7_peak_0 32 rfl)
theorem dX7_peak_33 : decode cX7_peak 33 = .ok (.sipush 1000, 3) := dq_17 bk_cX7_peak_0 33 rfl (by decide)
theorem dX7_peak_36 : decode cX7_peak 36 = .ok (.aload_n 0, 1) := dk_42 (blk_at bk_cX7_peak_0 36 rfl)
theorem dX7_peak_37 : decode cX7_peak 37 = .ok (.getfield 20, 3) := dq_180 bk_cX7_peak_0 37 rfl rfl
theorem bk_cX7_peak_40 : (cX7_peak.data.toList.drop 40).take 38 = [180, 0, 103, 104, 62, 42, 180, 0, 20, 180, 0, 103, 54, 4, 21, 4, 42, 180, 0, 20, 180, 0, 91, 162, 0, 120, 3, 54, 5, 21, 5, 42, 180, 0, 20, 180, 0, 97] := by decide +kernel
theorem dX7_peak_40 : decode cX7_peak 40 = .ok (.getfield 103, 3) := dq_180 bk_cX7_peak_40 0 rfl rfl
theorem dX7_peak_43 : decode cX7_peak 43 = .ok (.imul, 1) := dk_104 (blk_at bk_cX7_peak_40 3 rfl)
theorem dX7_peak_44 : decode cX7_peak 44 = .ok (.istore_n 3, 1) := dk_62 (blk_at bk_cX7_peak_40 4 rfl)
theorem dX7_peak_45 : decode cX7_peak 45 = .ok (.aload_n 0, 1) := dk_42 (blk_at bk_cX7_peak_40 5 rfl)
theorem dX7_peak_46 : decode cX7_peak 46 = .ok (.getfield 20, 3) := dq_180 bk_cX7_peak_40 6 rfl rfl
theorem dX7_peak_49 : decode cX7_peak 49 = .ok (.getfield 103, 3) := dq_180 bk_cX7_peak_40 9 rfl rfl
theorem dX7_peak_52 : decode cX7_peak 52 = .ok (.istore 4, 2) := dq_54 bk_cX7_peak_40 12 rfl rfl
theorem dX7_peak_54 : decode cX7_peak 54 = .ok (.iload 4, 2) := dq_21 bk_cX7_peak_40 14 rfl rfl
theorem dX7_peak_56 : decode cX7_peak 56 = .ok (.aload_n 0, 1) := dk_42 (blk_at bk_cX7_peak_40 16 rfl)
theorem dX7_peak_57 : decode cX7_peak 57 = .ok (.getfield 20, 3) := dq_180 bk_cX7_peak_40 17 rfl rfl
theorem dX7_peak_60 : decode cX7_peak 60 = .ok (.getfield 91, 3) := dq_180 bk_cX7_peak_40 20 rfl rfl
theorem dX7_peak_63 : decode cX7_peak 63 = .ok (.if_icmp .ge 120, 3) := dq_162 bk_cX7_peak_40 23 rfl (by decide)
theorem dX7_peak_66 : decode cX7_peak 66 = .ok (.iconst 0, 1) := dk_3 (blk_at bk_cX7_peak_40 26 rfl)
theorem dX7_peak_67 : decode cX7_peak 67 = .ok (.istore 5, 2) := dq_54 bk_cX7_peak_40 27 rfl rfl
theorem dX7_peak_69 : decode cX7_peak 69 = .ok (.iload 5, 2) := dq_21 bk_cX7_peak_40 29 rfl rfl
theorem dX7_peak_71 : decode cX7_peak 71 = .ok (.aload_n 0, 1) := dk_42 (blk_at bk_cX7_peak_40 31 rfl)
theorem dX7_peak_72 : decode cX7_peak 72 = .ok (.getfield 20, 3) := dq_180 bk_cX7_peak_40 32 rfl rfl
theorem dX7_peak_75 : decode cX7_peak 75 = .ok (.getfield 97, 3) := dq_180 bk_cX7_peak_40 35 rfl rfl
theorem bk_cX7_peak_78 : (cX7_peak.data.toList.drop 78).take 38 = [162, 0, 99, 42, 180, 0, 20, 180, 0, 135, 21, 5, 50, 58, 6, 25, 6, 21, 4, 182, 1, 26, 153, 0, 71, 42, 180, 0, 20, 21, 4, 25, 6, 180, 0, 144, 25, 6] := by decide +kernel
theorem dX7_peak_78 : decode cX7_peak 78 = .ok (.if_icmp .ge 99, 3) := dq_162 bk_cX7_peak_78 0 rfl (by decide)
theorem dX7_peak_81 : decode cX7_peak 81 = .ok (.aload_n 0, 1) := dk_42 (blk_at bk_cX7_peak_78 3 rfl)
theorem dX7_peak_82 : decode cX7_peak 82 = .ok (.getfield 20, 3) := dq_180 bk_cX7_peak_78 4 rfl rfl
theorem dX7_peak_85 : decode cX7_peak 85 = .ok (.getfield 135, 3) := dq_180 bk_cX7_peak_78 7 rfl rfl
theorem dX7_peak_88 : decode cX7_peak 88 = .ok (.iload 5, 2) := dq_21 bk_cX7_peak_78 10 rfl rfl
theorem dX7_peak_90 : decode cX7_peak 90 = .ok (.aaload, 1) := dk_50 (blk_at bk_cX7_peak_78 12 rfl)
theorem dX7_peak_91 : decode cX7_peak 91 = .ok (.astore 6, 2) := dq_58 bk_cX7_peak_78 13 rfl rfl
theorem dX7_peak_93 : decode cX7_peak 93 = .ok (.aload 6, 2) := dq_25 bk_cX7_peak_78 15 rfl rfl
theorem dX7_peak_95 : decode cX7_peak 95 = .ok (.iload 4, 2) := dq_21 bk_cX7_peak_78 17 rfl rfl
theorem dX7_peak_97 : decode cX7_peak 97 = .ok (.invokevirtual 282, 3) := dq_182 bk_cX7_peak_78 19 rfl rfl
theorem dX7_peak_100 : decode cX7_peak 100 = .ok (.ifCond .eq 71, 3) := dq_153 bk_cX7_peak_78 22 rfl (by decide)
theorem dX7_peak_103 : decode cX7_peak 103 = .ok (.aload_n 0, 1) := dk_42 (blk_at bk_cX7_peak_78 25 rfl)
theorem dX7_peak_104 : decode cX7_peak 104 = .ok (.getfield 20, 3) := dq_180 bk_cX7_peak_78 26 rfl rfl
theorem dX7_peak_107 : decode cX7_peak 107 = .ok (.iload 4, 2) := dq_21 bk_cX7_peak_78 29 rfl rfl
theorem dX7_peak_109 : decode cX7_peak 109 = .ok (.aload 6, 2) := dq_25 bk_cX7_peak_78 31 rfl rfl
theorem dX7_peak_111 : decode cX7_peak 111 = .ok (.getfield 144, 3) := dq_180 bk_cX7_peak_78 33 rfl rfl
theorem dX7_peak_114 : decode cX7_peak 114 = .ok (.aload 6, 2) := dq_25 bk_cX7_peak_78 36 rfl rfl
theorem bk_cX7_peak_116 : (cX7_peak.data.toList.drop 116).take 40 = [180, 0, 147, 182, 0, 208, 54, 7, 17, 3, 232, 21, 4, 104, 16, 100, 25, 6, 180, 0, 144, 104, 96, 25, 6, 180, 0, 147, 96, 54, 8, 21, 7, 28, 163, 0, 15, 21, 7, 28] := by decide +kernel
theorem dX7_peak_116 : decode cX7_peak 116 = .ok (.getfield 147, 3) := dq_180 bk_cX7_peak_116 0 rfl rfl
theorem dX7_peak_119 : decode cX7_peak 119 = .ok (.invokevirtual 208, 3) := dq_182 bk_cX7_peak_116 3 rfl rfl
theorem dX7_peak_122 : decode cX7_peak 122 = .ok (.istore 7, 2) := dq_54 bk_cX7_peak_116 6 rfl rfl
theorem dX7_peak_124 : decode cX7_peak 124 = .ok (.sipush 1000, 3) := dq_17 bk_cX7_peak_116 8 rfl (by decide)
theorem dX7_peak_127 : decode cX7_peak 127 = .ok (.iload 4, 2) := dq_21 bk_cX7_peak_116 11 rfl rfl
theorem dX7_peak_129 : decode cX7_peak 129 = .ok (.imul, 1) := dk_104 (blk_at bk_cX7_peak_116 13 rfl)
theorem dX7_peak_130 : decode cX7_peak 130 = .ok (.bipush 100, 2) := dq_16 bk_cX7_peak_116 14 rfl (by decide)
theorem dX7_peak_132 : decode cX7_peak 132 = .ok (.aload 6, 2) := dq_25 bk_cX7_peak_116 16 rfl rfl
theorem dX7_peak_134 : decode cX7_peak 134 = .ok (.getfield 144, 3) := dq_180 bk_cX7_peak_116 18 rfl rfl
theorem dX7_peak_137 : decode cX7_peak 137 = .ok (.imul, 1) := dk_104 (blk_at bk_cX7_peak_116 21 rfl)
theorem dX7_peak_138 : decode cX7_peak 138 = .ok (.iadd, 1) := dk_96 (blk_at bk_cX7_peak_116 22 rfl)
theorem dX7_peak_139 : decode cX7_peak 139 = .ok (.aload 6, 2) := dq_25 bk_cX7_peak_116 23 rfl rfl
theorem dX7_peak_141 : decode cX7_peak 141 = .ok (.getfield 147, 3) := dq_180 bk_cX7_peak_116 25 rfl rfl
theorem dX7_peak_144 : decode cX7_peak 144 = .ok (.iadd, 1) := dk_96 (blk_at bk_cX7_peak_116 28 rfl)
theorem dX7_peak_145 : decode cX7_peak 145 = .ok (.istore 8, 2) := dq_54 bk_cX7_peak_116 29 rfl rfl
theorem dX7_peak_147 : decode cX7_peak 147 = .ok (.iload 7, 2) := dq_21 bk_cX7_peak_116 31 rfl rfl
theorem dX7_peak_149 : decode cX7_peak 149 = .ok (.iload_n 2, 1) := dk_28 (blk_at bk_cX7_peak_116 33 rfl)
theorem dX7_peak_150 : decode cX7_peak 150 = .ok (.if_icmp .gt 15, 3) := dq_163 bk_cX7_peak_116 34 rfl (by decide)
theorem dX7_peak_153 : decode cX7_peak 153 = .ok (.iload 7, 2) := dq_21 bk_cX7_peak_116 37 rfl rfl
theorem dX7_peak_155 : decode cX7_peak 155 = .ok (.iload_n 2, 1) := dk_28 (blk_at bk_cX7_peak_116 39 rfl)
theorem bk_cX7_peak_156 : (cX7_peak.data.toList.drop 156).take 37 = [160, 0, 15, 21, 8, 29, 162, 0, 9, 21, 7, 61, 21, 8, 62, 132, 5, 1, 167, 255, 151, 132, 4, 1, 167, 255, 130, 27, 154, 0, 7, 28, 167, 0, 4, 29, 172] := by decide +kernel
theorem dX7_peak_156 : decode cX7_peak 156 = .ok (.if_icmp .ne 15, 3) := dq_160 bk_cX7_peak_156 0 rfl (by decide)
theorem dX7_peak_159 : decode cX7_peak 159 = .ok (.iload 8, 2) := dq_21 bk_cX7_peak_156 3 rfl rfl
theorem dX7_peak_161 : decode cX7_peak 161 = .ok (.iload_n 3, 1) := dk_29 (blk_at bk_cX7_peak_156 5 rfl)
theorem dX7_peak_162 : decode cX7_peak 162 = .ok (.if_icmp .ge 9, 3) := dq_162 bk_cX7_peak_156 6 rfl (by decide)
theorem dX7_peak_165 : decode cX7_peak 165 = .ok (.iload 7, 2) := dq_21 bk_cX7_peak_156 9 rfl rfl
theorem dX7_peak_167 : decode cX7_peak 167 = .ok (.istore_n 2, 1) := dk_61 (blk_at bk_cX7_peak_156 11 rfl)
theorem dX7_peak_168 : decode cX7_peak 168 = .ok (.iload 8, 2) := dq_21 bk_cX7_peak_156 12 rfl rfl
theorem dX7_peak_170 : decode cX7_peak 170 = .ok (.istore_n 3, 1) := dk_62 (blk_at bk_cX7_peak_156 14 rfl)
theorem dX7_peak_171 : decode cX7_peak 171 = .ok (.iinc 5 1, 3) := dq_132 bk_cX7_peak_156 15 rfl rfl (by decide)
theorem dX7_peak_174 : decode cX7_peak 174 = .ok (.goto (-105), 3) := dq_167 bk_cX7_peak_156 18 rfl (by decide)
theorem dX7_peak_177 : decode cX7_peak 177 = .ok (.iinc 4 1, 3) := dq_132 bk_cX7_peak_156 21 rfl rfl (by decide)
theorem dX7_peak_180 : decode cX7_peak 180 = .ok (.goto (-126), 3) := dq_167 bk_cX7_peak_156 24 rfl (by decide)
theorem dX7_peak_183 : decode cX7_peak 183 = .ok (.iload_n 1, 1) := dk_27 (blk_at bk_cX7_peak_156 27 rfl)
theorem dX7_peak_184 : decode cX7_peak 184 = .ok (.ifCond .ne 7, 3) := dq_154 bk_cX7_peak_156 28 rfl (by decide)
theorem dX7_peak_187 : decode cX7_peak 187 = .ok (.iload_n 2, 1) := dk_28 (blk_at bk_cX7_peak_156 31 rfl)
theorem dX7_peak_188 : decode cX7_peak 188 = .ok (.goto 4, 3) := dq_167 bk_cX7_peak_156 32 rfl (by decide)
theorem dX7_peak_191 : decode cX7_peak 191 = .ok (.iload_n 3, 1) := dk_29 (blk_at bk_cX7_peak_156 35 rfl)
theorem dX7_peak_192 : decode cX7_peak 192 = .ok (.ireturn, 1) := dk_172 (blk_at bk_cX7_peak_156 36 rfl)
theorem bk_cX7_full_0 : (cX7_full.data.toList.drop 0).take 38 = [42, 27, 182, 0, 245, 154, 0, 6, 16, 254, 172, 3, 61, 3, 62, 29, 16, 24, 162, 0, 47, 42, 180, 0, 20, 27, 29, 42, 180, 0, 20, 180, 0, 198, 29, 46, 3, 3] := by decide +kernel
theorem dX7_full_0 : decode cX7_full 0 = .ok (.aload_n 0, 1) := dk_42 (blk_at bk_cX7_full_0 0 rfl)
theorem dX7_full_1 : decode cX7_full 1 = .ok (.iload_n 1, 1) := dk_27 (blk_at bk_cX7_full_0 1 rfl)
theorem dX7_full_2 : decode cX7_full 2 = .ok (.invokevirtual 245, 3) := dq_182 bk_cX7_full_0 2 rfl rfl
theorem dX7_full_5 : decode cX7_full 5 = .ok (.ifCond .ne 6, 3) := dq_154 bk_cX7_full_0 5 rfl (by decide)
theorem dX7_full_8 : decode cX7_full 8 = .ok (.bipush (-2), 2) := dq_16 bk_cX7_full_0 8 rfl (by decide)
theorem dX7_full_10 : decode cX7_full 10 = .ok (.ireturn, 1) := dk_172 (blk_at bk_cX7_full_0 10 rfl)
theorem dX7_full_11 : decode cX7_full 11 = .ok (.iconst 0, 1) := dk_3 (blk_at bk_cX7_full_0 11 rfl)
theorem dX7_full_12 : decode cX7_full 12 = .ok (.istore_n 2, 1) := dk_61 (blk_at bk_cX7_full_0 12 rfl)
theorem dX7_full_13 : decode cX7_full 13 = .ok (.iconst 0, 1) := dk_3 (blk_at bk_cX7_full_0 13 rfl)
theorem dX7_full_14 : decode cX7_full 14 = .ok (.istore_n 3, 1) := dk_62 (blk_at bk_cX7_full_0 14 rfl)
theorem dX7_full_15 : decode cX7_full 15 = .ok (.iload_n 3, 1) := dk_29 (blk_at bk_cX7_full_0 15 rfl)
theorem dX7_full_16 : decode cX7_full 16 = .ok (.bipush 24, 2) := dq_16 bk_cX7_full_0 16 rfl (by decide)
theorem dX7_full_18 : decode cX7_full 18 = .ok (.if_icmp .ge 47, 3) := dq_162 bk_cX7_full_0 18 rfl (by decide)
theorem dX7_full_21 : decode cX7_full 21 = .ok (.aload_n 0, 1) := dk_42 (blk_at bk_cX7_full_0 21 rfl)
theorem dX7_full_22 : decode cX7_full 22 = .ok (.getfield 20, 3) := dq_180 bk_cX7_full_0 22 rfl rfl
theorem dX7_full_25 : decode cX7_full 25 = .ok (.iload_n 1, 1) := dk_27 (blk_at bk_cX7_full_0 25 rfl)
theorem dX7_full_26 : decode cX7_full 26 = .ok (.iload_n 3, 1) := dk_29 (blk_at bk_cX7_full_0 26 rfl)
theorem dX7_full_27 : decode cX7_full 27 = .ok (.aload_n 0, 1) := dk_42 (blk_at bk_cX7_full_0 27 rfl)
theorem dX7_full_28 : decode cX7_full 28 = .ok (.getfield 20, 3) := dq_180 bk_cX7_full_0 28 rfl rfl
theorem dX7_full_31 : decode cX7_full 31 = .ok (.getfield 198, 3) := dq_180 bk_cX7_full_0 31 rfl rfl
theorem dX7_full_34 : decode cX7_full 34 = .ok (.iload_n 3, 1) := dk_29 (blk_at bk_cX7_full_0 34 rfl)
theorem dX7_full_35 : decode cX7_full 35 = .ok (.iaload, 1) := dk_46 (blk_at bk_cX7_full_0 35 rfl)
theorem dX7_full_36 : decode cX7_full 36 = .ok (.iconst 0, 1) := dk_3 (blk_at bk_cX7_full_0 36 rfl)
theorem dX7_full_37 : decode cX7_full 37 = .ok (.iconst 0, 1) := dk_3 (blk_at bk_cX7_full_0 37 rfl)
theorem bk_cX7_full_38 : (cX7_full.data.toList.drop 38).take 29 = [182, 1, 29, 54, 4, 28, 21, 4, 42, 180, 0, 20, 182, 1, 33, 126, 184, 0, 255, 96, 61, 132, 3, 1, 167, 255, 209, 28, 172] := by decide +kernel
theorem dX7_full_38 : decode cX7_full 38 = .ok (.invokevirtual 285, 3) := dq_182 bk_cX7_full_38 0 rfl rfl
theorem dX7_full_41 : decode cX7_full 41 = .ok (.istore 4, 2) := dq_54 bk_cX7_full_38 3 rfl rfl
theorem dX7_full_43 : decode cX7_full 43 = .ok (.iload_n 2, 1) := dk_28 (blk_at bk_cX7_full_38 5 rfl)
theorem dX7_full_44 : decode cX7_full 44 = .ok (.iload 4, 2) := dq_21 bk_cX7_full_38 6 rfl rfl
theorem dX7_full_46 : decode cX7_full 46 = .ok (.aload_n 0, 1) := dk_42 (blk_at bk_cX7_full_38 8 rfl)
theorem dX7_full_47 : decode cX7_full 47 = .ok (.getfield 20, 3) := dq_180 bk_cX7_full_38 9 rfl rfl
theorem dX7_full_50 : decode cX7_full 50 = .ok (.invokevirtual 289, 3) := dq_182 bk_cX7_full_38 12 rfl rfl
theorem dX7_full_53 : decode cX7_full 53 = .ok (.iand, 1) := dk_126 (blk_at bk_cX7_full_38 15 rfl)
theorem dX7_full_54 : decode cX7_full 54 = .ok (.invokestatic 255, 3) := dq_184 bk_cX7_full_38 16 rfl rfl
theorem dX7_full_57 : decode cX7_full 57 = .ok (.iadd, 1) := dk_96 (blk_at bk_cX7_full_38 19 rfl)
theorem dX7_full_58 : decode cX7_full 58 = .ok (.istore_n 2, 1) := dk_61 (blk_at bk_cX7_full_38 20 rfl)
theorem dX7_full_59 : decode cX7_full 59 = .ok (.iinc 3 1, 3) := dq_132 bk_cX7_full_38 21 rfl rfl (by decide)
theorem dX7_full_62 : decode cX7_full 62 = .ok (.goto (-47), 3) := dq_167 bk_cX7_full_38 24 rfl (by decide)
theorem dX7_full_65 : decode cX7_full 65 = .ok (.iload_n 2, 1) := dk_28 (blk_at bk_cX7_full_38 27 rfl)
theorem dX7_full_66 : decode cX7_full 66 = .ok (.ireturn, 1) := dk_172 (blk_at bk_cX7_full_38 28 rfl)
theorem bk_cX7_idle_0 : (cX7_idle.data.toList.drop 0).take 38 = [42, 27, 182, 0, 245, 154, 0, 6, 16, 254, 172, 3, 61, 3, 62, 29, 16, 24, 162, 0, 42, 42, 180, 0, 20, 27, 29, 4, 3, 3, 182, 1, 29, 54, 4, 21, 4, 42] := by decide +kernel
theorem dX7_idle_0 : decode cX7_idle 0 = .ok (.aload_n 0, 1) := dk_42 (blk_at bk_cX7_idle_0 0 rfl)
theorem dX7_idle_1 : decode cX7_idle 1 = .ok (.iload_n 1, 1) := dk_27 (blk_at bk_cX7_idle_0 1 rfl)
theorem dX7_idle_2 : decode cX7_idle 2 = .ok (.invokevirtual 245, 3) := dq_182 bk_cX7_idle_0 2 rfl rfl
theorem dX7_idle_5 : decode cX7_idle 5 = .ok (.ifCond .ne 6, 3) := dq_154 bk_cX7_idle_0 5 rfl (by decide)
theorem dX7_idle_8 : decode cX7_idle 8 = .ok (.bipush (-2), 2) := dq_16 bk_cX7_idle_0 8 rfl (by decide)
theorem dX7_idle_10 : decode cX7_idle 10 = .ok (.ireturn, 1) := dk_172 (blk_at bk_cX7_idle_0 10 rfl)
theorem dX7_idle_11 : decode cX7_idle 11 = .ok (.iconst 0, 1) := dk_3 (blk_at bk_cX7_idle_0 11 rfl)
theorem dX7_idle_12 : decode cX7_idle 12 = .ok (.istore_n 2, 1) := dk_61 (blk_at bk_cX7_idle_0 12 rfl)
theorem dX7_idle_13 : decode cX7_idle 13 = .ok (.iconst 0, 1) := dk_3 (blk_at bk_cX7_idle_0 13 rfl)
theorem dX7_idle_14 : decode cX7_idle 14 = .ok (.istore_n 3, 1) := dk_62 (blk_at bk_cX7_idle_0 14 rfl)
theorem dX7_idle_15 : decode cX7_idle 15 = .ok (.iload_n 3, 1) := dk_29 (blk_at bk_cX7_idle_0 15 rfl)
theorem dX7_idle_16 : decode cX7_idle 16 = .ok (.bipush 24, 2) := dq_16 bk_cX7_idle_0 16 rfl (by decide)
theorem dX7_idle_18 : decode cX7_idle 18 = .ok (.if_icmp .ge 42, 3) := dq_162 bk_cX7_idle_0 18 rfl (by decide)
theorem dX7_idle_21 : decode cX7_idle 21 = .ok (.aload_n 0, 1) := dk_42 (blk_at bk_cX7_idle_0 21 rfl)
theorem dX7_idle_22 : decode cX7_idle 22 = .ok (.getfield 20, 3) := dq_180 bk_cX7_idle_0 22 rfl rfl
theorem dX7_idle_25 : decode cX7_idle 25 = .ok (.iload_n 1, 1) := dk_27 (blk_at bk_cX7_idle_0 25 rfl)
theorem dX7_idle_26 : decode cX7_idle 26 = .ok (.iload_n 3, 1) := dk_29 (blk_at bk_cX7_idle_0 26 rfl)
theorem dX7_idle_27 : decode cX7_idle 27 = .ok (.iconst 1, 1) := dk_4 (blk_at bk_cX7_idle_0 27 rfl)
theorem dX7_idle_28 : decode cX7_idle 28 = .ok (.iconst 0, 1) := dk_3 (blk_at bk_cX7_idle_0 28 rfl)
theorem dX7_idle_29 : decode cX7_idle 29 = .ok (.iconst 0, 1) := dk_3 (blk_at bk_cX7_idle_0 29 rfl)
theorem dX7_idle_30 : decode cX7_idle 30 = .ok (.invokevirtual 285, 3) := dq_182 bk_cX7_idle_0 30 rfl rfl
theorem dX7_idle_33 : decode cX7_idle 33 = .ok (.istore 4, 2) := dq_54 bk_cX7_idle_0 33 rfl rfl
theorem dX7_idle_35 : decode cX7_idle 35 = .ok (.iload 4, 2) := dq_21 bk_cX7_idle_0 35 rfl rfl
theorem dX7_idle_37 : decode cX7_idle 37 = .ok (.aload_n 0, 1) := dk_42 (blk_at bk_cX7_idle_0 37 rfl)
theorem bk_cX7_idle_38 : (cX7_idle.data.toList.drop 38).take 24 = [180, 0, 20, 182, 1, 33, 126, 154, 0, 9, 28, 4, 29, 120, 128, 61, 132, 3, 1, 167, 255, 214, 28, 172] := by decide +kernel
theorem dX7_idle_38 : decode cX7_idle 38 = .ok (.getfield 20, 3) := dq_180 bk_cX7_idle_38 0 rfl rfl
theorem dX7_idle_41 : decode cX7_idle 41 = .ok (.invokevirtual 289, 3) := dq_182 bk_cX7_idle_38 3 rfl rfl
theorem dX7_idle_44 : decode cX7_idle 44 = .ok (.iand, 1) := dk_126 (blk_at bk_cX7_idle_38 6 rfl)
theorem dX7_idle_45 : decode cX7_idle 45 = .ok (.ifCond .ne 9, 3) := dq_154 bk_cX7_idle_38 7 rfl (by decide)
theorem dX7_idle_48 : decode cX7_idle 48 = .ok (.iload_n 2, 1) := dk_28 (blk_at bk_cX7_idle_38 10 rfl)
theorem dX7_idle_49 : decode cX7_idle 49 = .ok (.iconst 1, 1) := dk_4 (blk_at bk_cX7_idle_38 11 rfl)
theorem dX7_idle_50 : decode cX7_idle 50 = .ok (.iload_n 3, 1) := dk_29 (blk_at bk_cX7_idle_38 12 rfl)
theorem dX7_idle_51 : decode cX7_idle 51 = .ok (.ishl, 1) := dk_120 (blk_at bk_cX7_idle_38 13 rfl)
theorem dX7_idle_52 : decode cX7_idle 52 = .ok (.ior, 1) := dk_128 (blk_at bk_cX7_idle_38 14 rfl)
theorem dX7_idle_53 : decode cX7_idle 53 = .ok (.istore_n 2, 1) := dk_61 (blk_at bk_cX7_idle_38 15 rfl)
theorem dX7_idle_54 : decode cX7_idle 54 = .ok (.iinc 3 1, 3) := dq_132 bk_cX7_idle_38 16 rfl rfl (by decide)
theorem dX7_idle_57 : decode cX7_idle 57 = .ok (.goto (-42), 3) := dq_167 bk_cX7_idle_38 19 rfl (by decide)
theorem dX7_idle_60 : decode cX7_idle 60 = .ok (.iload_n 2, 1) := dk_28 (blk_at bk_cX7_idle_38 22 rfl)
theorem dX7_idle_61 : decode cX7_idle 61 = .ok (.ireturn, 1) := dk_172 (blk_at bk_cX7_idle_38 23 rfl)
theorem bk_cX7_fitting_0 : (cX7_fitting.data.toList.drop 0).take 40 = [42, 27, 182, 0, 245, 153, 0, 33, 28, 184, 0, 218, 153, 0, 26, 42, 29, 182, 0, 167, 153, 0, 18, 42, 21, 4, 182, 0, 167, 153, 0, 9, 21, 4, 29, 162, 0, 6, 16, 254] := by decide +kernel
theorem dX7_fitting_0 : decode cX7_fitting 0 = .ok (.aload_n 0, 1) := dk_42 (blk_at bk_cX7_fitting_0 0 rfl)
theorem dX7_fitting_1 : decode cX7_fitting 1 = .ok (.iload_n 1, 1) := dk_27 (blk_at bk_cX7_fitting_0 1 rfl)
theorem dX7_fitting_2 : decode cX7_fitting 2 = .ok (.invokevirtual 245, 3) := dq_182 bk_cX7_fitting_0 2 rfl rfl
theorem dX7_fitting_5 : decode cX7_fitting 5 = .ok (.ifCond .eq 33, 3) := dq_153 bk_cX7_fitting_0 5 rfl (by decide)
theorem dX7_fitting_8 : decode cX7_fitting 8 = .ok (.iload_n 2, 1) := dk_28 (blk_at bk_cX7_fitting_0 8 rfl)
theorem dX7_fitting_9 : decode cX7_fitting 9 = .ok (.invokestatic 218, 3) := dq_184 bk_cX7_fitting_0 9 rfl rfl
theorem dX7_fitting_12 : decode cX7_fitting 12 = .ok (.ifCond .eq 26, 3) := dq_153 bk_cX7_fitting_0 12 rfl (by decide)
theorem dX7_fitting_15 : decode cX7_fitting 15 = .ok (.aload_n 0, 1) := dk_42 (blk_at bk_cX7_fitting_0 15 rfl)
theorem dX7_fitting_16 : decode cX7_fitting 16 = .ok (.iload_n 3, 1) := dk_29 (blk_at bk_cX7_fitting_0 16 rfl)
theorem dX7_fitting_17 : decode cX7_fitting 17 = .ok (.invokevirtual 167, 3) := dq_182 bk_cX7_fitting_0 17 rfl rfl
theorem dX7_fitting_20 : decode cX7_fitting 20 = .ok (.ifCond .eq 18, 3) := dq_153 bk_cX7_fitting_0 20 rfl (by decide)
theorem dX7_fitting_23 : decode cX7_fitting 23 = .ok (.aload_n 0, 1) := dk_42 (blk_at bk_cX7_fitting_0 23 rfl)
theorem dX7_fitting_24 : decode cX7_fitting 24 = .ok (.iload 4, 2) := dq_21 bk_cX7_fitting_0 24 rfl rfl
theorem dX7_fitting_26 : decode cX7_fitting 26 = .ok (.invokevirtual 167, 3) := dq_182 bk_cX7_fitting_0 26 rfl rfl
theorem dX7_fitting_29 : decode cX7_fitting 29 = .ok (.ifCond .eq 9, 3) := dq_153 bk_cX7_fitting_0 29 rfl (by decide)
theorem dX7_fitting_32 : decode cX7_fitting 32 = .ok (.iload 4, 2) := dq_21 bk_cX7_fitting_0 32 rfl rfl
theorem dX7_fitting_34 : decode cX7_fitting 34 = .ok (.iload_n 3, 1) := dk_29 (blk_at bk_cX7_fitting_0 34 rfl)
theorem dX7_fitting_35 : decode cX7_fitting 35 = .ok (.if_icmp .ge 6, 3) := dq_162 bk_cX7_fitting_0 35 rfl (by decide)
theorem dX7_fitting_38 : decode cX7_fitting 38 = .ok (.bipush (-2), 2) := dq_16 bk_cX7_fitting_0 38 rfl (by decide)
theorem bk_cX7_fitting_40 : (cX7_fitting.data.toList.drop 40).take 39 = [172, 29, 21, 4, 184, 1, 36, 54, 5, 3, 54, 6, 3, 54, 7, 21, 7, 16, 24, 162, 0, 35, 42, 180, 0, 20, 27, 21, 7, 28, 21, 5, 3, 182, 1, 39, 153, 0, 12] := by decide +kernel
theorem dX7_fitting_40 : decode cX7_fitting 40 = .ok (.ireturn, 1) := dk_172 (blk_at bk_cX7_fitting_40 0 rfl)
theorem dX7_fitting_41 : decode cX7_fitting 41 = .ok (.iload_n 3, 1) := dk_29 (blk_at bk_cX7_fitting_40 1 rfl)
theorem dX7_fitting_42 : decode cX7_fitting 42 = .ok (.iload 4, 2) := dq_21 bk_cX7_fitting_40 2 rfl rfl
theorem dX7_fitting_44 : decode cX7_fitting 44 = .ok (.invokestatic 292, 3) := dq_184 bk_cX7_fitting_40 4 rfl rfl
theorem dX7_fitting_47 : decode cX7_fitting 47 = .ok (.istore 5, 2) := dq_54 bk_cX7_fitting_40 7 rfl rfl
theorem dX7_fitting_49 : decode cX7_fitting 49 = .ok (.iconst 0, 1) := dk_3 (blk_at bk_cX7_fitting_40 9 rfl)
theorem dX7_fitting_50 : decode cX7_fitting 50 = .ok (.istore 6, 2) := dq_54 bk_cX7_fitting_40 10 rfl rfl
theorem dX7_fitting_52 : decode cX7_fitting 52 = .ok (.iconst 0, 1) := dk_3 (blk_at bk_cX7_fitting_40 12 rfl)
theorem dX7_fitting_53 : decode cX7_fitting 53 = .ok (.istore 7, 2) := dq_54 bk_cX7_fitting_40 13 rfl rfl
theorem dX7_fitting_55 : decode cX7_fitting 55 = .ok (.iload 7, 2) := dq_21 bk_cX7_fitting_40 15 rfl rfl
theorem dX7_fitting_57 : decode cX7_fitting 57 = .ok (.bipush 24, 2) := dq_16 bk_cX7_fitting_40 17 rfl (by decide)
theorem dX7_fitting_59 : decode cX7_fitting 59 = .ok (.if_icmp .ge 35, 3) := dq_162 bk_cX7_fitting_40 19 rfl (by decide)
theorem dX7_fitting_62 : decode cX7_fitting 62 = .ok (.aload_n 0, 1) := dk_42 (blk_at bk_cX7_fitting_40 22 rfl)
theorem dX7_fitting_63 : decode cX7_fitting 63 = .ok (.getfield 20, 3) := dq_180 bk_cX7_fitting_40 23 rfl rfl
theorem dX7_fitting_66 : decode cX7_fitting 66 = .ok (.iload_n 1, 1) := dk_27 (blk_at bk_cX7_fitting_40 26 rfl)
theorem dX7_fitting_67 : decode cX7_fitting 67 = .ok (.iload 7, 2) := dq_21 bk_cX7_fitting_40 27 rfl rfl
theorem dX7_fitting_69 : decode cX7_fitting 69 = .ok (.iload_n 2, 1) := dk_28 (blk_at bk_cX7_fitting_40 29 rfl)
theorem dX7_fitting_70 : decode cX7_fitting 70 = .ok (.iload 5, 2) := dq_21 bk_cX7_fitting_40 30 rfl rfl
theorem dX7_fitting_72 : decode cX7_fitting 72 = .ok (.iconst 0, 1) := dk_3 (blk_at bk_cX7_fitting_40 32 rfl)
theorem dX7_fitting_73 : decode cX7_fitting 73 = .ok (.invokevirtual 295, 3) := dq_182 bk_cX7_fitting_40 33 rfl rfl
theorem dX7_fitting_76 : decode cX7_fitting 76 = .ok (.ifCond .eq 12, 3) := dq_153 bk_cX7_fitting_40 36 rfl (by decide)
theorem bk_cX7_fitting_79 : (cX7_fitting.data.toList.drop 79).take 18 = [21, 6, 4, 21, 7, 120, 128, 54, 6, 132, 7, 1, 167, 255, 220, 21, 6, 172] := by decide +kernel
theorem dX7_fitting_79 : decode cX7_fitting 79 = .ok (.iload 6, 2) := dq_21 bk_cX7_fitting_79 0 rfl rfl
theorem dX7_fitting_81 : decode cX7_fitting 81 = .ok (.iconst 1, 1) := dk_4 (blk_at bk_cX7_fitting_79 2 rfl)
theorem dX7_fitting_82 : decode cX7_fitting 82 = .ok (.iload 7, 2) := dq_21 bk_cX7_fitting_79 3 rfl rfl
theorem dX7_fitting_84 : decode cX7_fitting 84 = .ok (.ishl, 1) := dk_120 (blk_at bk_cX7_fitting_79 5 rfl)
theorem dX7_fitting_85 : decode cX7_fitting 85 = .ok (.ior, 1) := dk_128 (blk_at bk_cX7_fitting_79 6 rfl)
theorem dX7_fitting_86 : decode cX7_fitting 86 = .ok (.istore 6, 2) := dq_54 bk_cX7_fitting_79 7 rfl rfl
theorem dX7_fitting_88 : decode cX7_fitting 88 = .ok (.iinc 7 1, 3) := dq_132 bk_cX7_fitting_79 9 rfl rfl (by decide)
theorem dX7_fitting_91 : decode cX7_fitting 91 = .ok (.goto (-36), 3) := dq_167 bk_cX7_fitting_79 12 rfl (by decide)
theorem dX7_fitting_94 : decode cX7_fitting 94 = .ok (.iload 6, 2) := dq_21 bk_cX7_fitting_79 15 rfl rfl
theorem dX7_fitting_96 : decode cX7_fitting 96 = .ok (.ireturn, 1) := dk_172 (blk_at bk_cX7_fitting_79 17 rfl)
theorem bk_cX7_fits_0 : (cX7_fits.data.toList.drop 0).take 38 = [42, 27, 182, 0, 173, 154, 0, 6, 16, 254, 172, 42, 180, 0, 20, 180, 0, 176, 27, 50, 77, 44, 180, 0, 189, 42, 180, 0, 20, 180, 0, 103, 162, 0, 5, 2, 172, 42] := by decide +kernel
theorem dX7_fits_0 : decode cX7_fits 0 = .ok (.aload_n 0, 1) := dk_42 (blk_at bk_cX7_fits_0 0 rfl)
theorem dX7_fits_1 : decode cX7_fits 1 = .ok (.iload_n 1, 1) := dk_27 (blk_at bk_cX7_fits_0 1 rfl)
theorem dX7_fits_2 : decode cX7_fits 2 = .ok (.invokevirtual 173, 3) := dq_182 bk_cX7_fits_0 2 rfl rfl
theorem dX7_fits_5 : decode cX7_fits 5 = .ok (.ifCond .ne 6, 3) := dq_154 bk_cX7_fits_0 5 rfl (by decide)
theorem dX7_fits_8 : decode cX7_fits 8 = .ok (.bipush (-2), 2) := dq_16 bk_cX7_fits_0 8 rfl (by decide)
theorem dX7_fits_10 : decode cX7_fits 10 = .ok (.ireturn, 1) := dk_172 (blk_at bk_cX7_fits_0 10 rfl)
theorem dX7_fits_11 : decode cX7_fits 11 = .ok (.aload_n 0, 1) := dk_42 (blk_at bk_cX7_fits_0 11 rfl)
theorem dX7_fits_12 : decode cX7_fits 12 = .ok (.getfield 20, 3) := dq_180 bk_cX7_fits_0 12 rfl rfl
theorem dX7_fits_15 : decode cX7_fits 15 = .ok (.getfield 176, 3) := dq_180 bk_cX7_fits_0 15 rfl rfl
theorem dX7_fits_18 : decode cX7_fits 18 = .ok (.iload_n 1, 1) := dk_27 (blk_at bk_cX7_fits_0 18 rfl)
theorem dX7_fits_19 : decode cX7_fits 19 = .ok (.aaload, 1) := dk_50 (blk_at bk_cX7_fits_0 19 rfl)
theorem dX7_fits_20 : decode cX7_fits 20 = .ok (.astore_n 2, 1) := dk_77 (blk_at bk_cX7_fits_0 20 rfl)
theorem dX7_fits_21 : decode cX7_fits 21 = .ok (.aload_n 2, 1) := dk_44 (blk_at bk_cX7_fits_0 21 rfl)
theorem dX7_fits_22 : decode cX7_fits 22 = .ok (.getfield 189, 3) := dq_180 bk_cX7_fits_0 22 rfl rfl
theorem dX7_fits_25 : decode cX7_fits 25 = .ok (.aload_n 0, 1) := dk_42 (blk_at bk_cX7_fits_0 25 rfl)
theorem dX7_fits_26 : decode cX7_fits 26 = .ok (.getfield 20, 3) := dq_180 bk_cX7_fits_0 26 rfl rfl
theorem dX7_fits_29 : decode cX7_fits 29 = .ok (.getfield 103, 3) := dq_180 bk_cX7_fits_0 29 rfl rfl
theorem dX7_fits_32 : decode cX7_fits 32 = .ok (.if_icmp .ge 5, 3) := dq_162 bk_cX7_fits_0 32 rfl (by decide)
theorem dX7_fits_35 : decode cX7_fits 35 = .ok (.iconst (-1), 1) := dk_2 (blk_at bk_cX7_fits_0 35 rfl)
theorem dX7_fits_36 : decode cX7_fits 36 = .ok (.ireturn, 1) := dk_172 (blk_at bk_cX7_fits_0 36 rfl)
theorem dX7_fits_37 : decode cX7_fits 37 = .ok (.aload_n 0, 1) := dk_42 (blk_at bk_cX7_fits_0 37 rfl)
theorem bk_cX7_fits_38 : (cX7_fits.data.toList.drop 38).take 21 = [180, 0, 20, 44, 44, 180, 0, 184, 3, 182, 1, 43, 153, 0, 7, 4, 167, 0, 4, 3, 172] := by decide +kernel
theorem dX7_fits_38 : decode cX7_fits 38 = .ok (.getfield 20, 3) := dq_180 bk_cX7_fits_38 0 rfl rfl
theorem dX7_fits_41 : decode cX7_fits 41 = .ok (.aload_n 2, 1) := dk_44 (blk_at bk_cX7_fits_38 3 rfl)
theorem dX7_fits_42 : decode cX7_fits 42 = .ok (.aload_n 2, 1) := dk_44 (blk_at bk_cX7_fits_38 4 rfl)
theorem dX7_fits_43 : decode cX7_fits 43 = .ok (.getfield 184, 3) := dq_180 bk_cX7_fits_38 5 rfl rfl
theorem dX7_fits_46 : decode cX7_fits 46 = .ok (.iconst 0, 1) := dk_3 (blk_at bk_cX7_fits_38 8 rfl)
theorem dX7_fits_47 : decode cX7_fits 47 = .ok (.invokevirtual 299, 3) := dq_182 bk_cX7_fits_38 9 rfl rfl
theorem dX7_fits_50 : decode cX7_fits 50 = .ok (.ifCond .eq 7, 3) := dq_153 bk_cX7_fits_38 12 rfl (by decide)
theorem dX7_fits_53 : decode cX7_fits 53 = .ok (.iconst 1, 1) := dk_4 (blk_at bk_cX7_fits_38 15 rfl)
theorem dX7_fits_54 : decode cX7_fits 54 = .ok (.goto 4, 3) := dq_167 bk_cX7_fits_38 16 rfl (by decide)
theorem dX7_fits_57 : decode cX7_fits 57 = .ok (.iconst 0, 1) := dk_3 (blk_at bk_cX7_fits_38 19 rfl)
theorem dX7_fits_58 : decode cX7_fits 58 = .ok (.ireturn, 1) := dk_172 (blk_at bk_cX7_fits_38 20 rfl)
theorem bk_cX7_where_0 : (cX7_where.data.toList.drop 0).take 28 = [42, 27, 182, 0, 173, 154, 0, 6, 16, 254, 172, 42, 180, 0, 20, 42, 180, 0, 20, 180, 0, 176, 27, 50, 182, 1, 47, 172] := by decide +kernel
theorem dX7_where_0 : decode cX7_where 0 = .ok (.aload_n 0, 1) := dk_42 (blk_at bk_cX7_where_0 0 rfl)
theorem dX7_where_1 : decode cX7_where 1 = .ok (.iload_n 1, 1) := dk_27 (blk_at bk_cX7_where_0 1 rfl)
theorem dX7_where_2 : decode cX7_where 2 = .ok (.invokevirtual 173, 3) := dq_182 bk_cX7_where_0 2 rfl rfl
theorem dX7_where_5 : decode cX7_where 5 = .ok (.ifCond .ne 6, 3) := dq_154 bk_cX7_where_0 5 rfl (by decide)
theorem dX7_where_8 : decode cX7_where 8 = .ok (.bipush (-2), 2) := dq_16 bk_cX7_where_0 8 rfl (by decide)
theorem dX7_where_10 : decode cX7_where 10 = .ok (.ireturn, 1) := dk_172 (blk_at bk_cX7_where_0 10 rfl)
theorem dX7_where_11 : decode cX7_where 11 = .ok (.aload_n 0, 1) := dk_42 (blk_at bk_cX7_where_0 11 rfl)
theorem dX7_where_12 : decode cX7_where 12 = .ok (.getfield 20, 3) := dq_180 bk_cX7_where_0 12 rfl rfl
theorem dX7_where_15 : decode cX7_where 15 = .ok (.aload_n 0, 1) := dk_42 (blk_at bk_cX7_where_0 15 rfl)
theorem dX7_where_16 : decode cX7_where 16 = .ok (.getfield 20, 3) := dq_180 bk_cX7_where_0 16 rfl rfl
theorem dX7_where_19 : decode cX7_where 19 = .ok (.getfield 176, 3) := dq_180 bk_cX7_where_0 19 rfl rfl
theorem dX7_where_22 : decode cX7_where 22 = .ok (.iload_n 1, 1) := dk_27 (blk_at bk_cX7_where_0 22 rfl)
theorem dX7_where_23 : decode cX7_where 23 = .ok (.aaload, 1) := dk_50 (blk_at bk_cX7_where_0 23 rfl)
theorem dX7_where_24 : decode cX7_where 24 = .ok (.invokevirtual 303, 3) := dq_182 bk_cX7_where_0 24 rfl rfl
theorem dX7_where_27 : decode cX7_where 27 = .ok (.ireturn, 1) := dk_172 (blk_at bk_cX7_where_0 27 rfl)
theorem bk_cX7_blocked_0 : (cX7_blocked.data.toList.drop 0).take 40 = [42, 27, 182, 0, 173, 154, 0, 6, 16, 254, 172, 42, 180, 0, 20, 180, 0, 176, 27, 50, 77, 42, 180, 0, 20, 44, 44, 180, 0, 184, 3, 182, 1, 43, 153, 0, 5, 3, 172, 3] := by decide +kernel
theorem dX7_blocked_0 : decode cX7_blocked 0 = .ok (.aload_n 0, 1) := dk_42 (blk_at bk_cX7_blocked_0 0 rfl)
theorem dX7_blocked_1 : decode cX7_blocked 1 = .ok (.iload_n 1, 1) := dk_27 (blk_at bk_cX7_blocked_0 1 rfl)
theorem dX7_blocked_2 : decode cX7_blocked 2 = .ok (.invokevirtual 173, 3) := dq_182 bk_cX7_blocked_0 2 rfl rfl
theorem dX7_blocked_5 : decode cX7_blocked 5 = .ok (.ifCond .ne 6, 3) := dq_154 bk_cX7_blocked_0 5 rfl (by decide)
theorem dX7_blocked_8 : decode cX7_blocked 8 = .ok (.bipush (-2), 2) := dq_16 bk_cX7_blocked_0 8 rfl (by decide)
theorem dX7_blocked_10 : decode cX7_blocked 10 = .ok (.ireturn, 1) := dk_172 (blk_at bk_cX7_blocked_0 10 rfl)
theorem dX7_blocked_11 : decode cX7_blocked 11 = .ok (.aload_n 0, 1) := dk_42 (blk_at bk_cX7_blocked_0 11 rfl)
theorem dX7_blocked_12 : decode cX7_blocked 12 = .ok (.getfield 20, 3) := dq_180 bk_cX7_blocked_0 12 rfl rfl
theorem dX7_blocked_15 : decode cX7_blocked 15 = .ok (.getfield 176, 3) := dq_180 bk_cX7_blocked_0 15 rfl rfl
theorem dX7_blocked_18 : decode cX7_blocked 18 = .ok (.iload_n 1, 1) := dk_27 (blk_at bk_cX7_blocked_0 18 rfl)
theorem dX7_blocked_19 : decode cX7_blocked 19 = .ok (.aaload, 1) := dk_50 (blk_at bk_cX7_blocked_0 19 rfl)
theorem dX7_blocked_20 : decode cX7_blocked 20 = .ok (.astore_n 2, 1) := dk_77 (blk_at bk_cX7_blocked_0 20 rfl)
theorem dX7_blocked_21 : decode cX7_blocked 21 = .ok (.aload_n 0, 1) := dk_42 (blk_at bk_cX7_blocked_0 21 rfl)
theorem dX7_blocked_22 : decode cX7_blocked 22 = .ok (.getfield 20, 3) := dq_180 bk_cX7_blocked_0 22 rfl rfl
theorem dX7_blocked_25 : decode cX7_blocked 25 = .ok (.aload_n 2, 1) := dk_44 (blk_at bk_cX7_blocked_0 25 rfl)
theorem dX7_blocked_26 : decode cX7_blocked 26 = .ok (.aload_n 2, 1) := dk_44 (blk_at bk_cX7_blocked_0 26 rfl)
theorem dX7_blocked_27 : decode cX7_blocked 27 = .ok (.getfield 184, 3) := dq_180 bk_cX7_blocked_0 27 rfl rfl
theorem dX7_blocked_30 : decode cX7_blocked 30 = .ok (.iconst 0, 1) := dk_3 (blk_at bk_cX7_blocked_0 30 rfl)
theorem dX7_blocked_31 : decode cX7_blocked 31 = .ok (.invokevirtual 299, 3) := dq_182 bk_cX7_blocked_0 31 rfl rfl
theorem dX7_blocked_34 : decode cX7_blocked 34 = .ok (.ifCond .eq 5, 3) := dq_153 bk_cX7_blocked_0 34 rfl (by decide)
theorem dX7_blocked_37 : decode cX7_blocked 37 = .ok (.iconst 0, 1) := dk_3 (blk_at bk_cX7_blocked_0 37 rfl)
theorem dX7_blocked_38 : decode cX7_blocked 38 = .ok (.ireturn, 1) := dk_172 (blk_at bk_cX7_blocked_0 38 rfl)
theorem dX7_blocked_39 : decode cX7_blocked 39 = .ok (.iconst 0, 1) := dk_3 (blk_at bk_cX7_blocked_0 39 rfl)
theorem bk_cX7_blocked_40 : (cX7_blocked.data.toList.drop 40).take 40 = [62, 3, 54, 4, 21, 4, 42, 180, 0, 20, 180, 0, 97, 162, 0, 35, 42, 180, 0, 20, 44, 44, 180, 0, 184, 4, 21, 4, 120, 182, 1, 43, 153, 0, 10, 29, 4, 21, 4, 120] := by decide +kernel
theorem dX7_blocked_40 : decode cX7_blocked 40 = .ok (.istore_n 3, 1) := dk_62 (blk_at bk_cX7_blocked_40 0 rfl)
theorem dX7_blocked_41 : decode cX7_blocked 41 = .ok (.iconst 0, 1) := dk_3 (blk_at bk_cX7_blocked_40 1 rfl)
theorem dX7_blocked_42 : decode cX7_blocked 42 = .ok (.istore 4, 2) := dq_54 bk_cX7_blocked_40 2 rfl rfl
theorem dX7_blocked_44 : decode cX7_blocked 44 = .ok (.iload 4, 2) := dq_21 bk_cX7_blocked_40 4 rfl rfl
theorem dX7_blocked_46 : decode cX7_blocked 46 = .ok (.aload_n 0, 1) := dk_42 (blk_at bk_cX7_blocked_40 6 rfl)
theorem dX7_blocked_47 : decode cX7_blocked 47 = .ok (.getfield 20, 3) := dq_180 bk_cX7_blocked_40 7 rfl rfl
theorem dX7_blocked_50 : decode cX7_blocked 50 = .ok (.getfield 97, 3) := dq_180 bk_cX7_blocked_40 10 rfl rfl
theorem dX7_blocked_53 : decode cX7_blocked 53 = .ok (.if_icmp .ge 35, 3) := dq_162 bk_cX7_blocked_40 13 rfl (by decide)
theorem dX7_blocked_56 : decode cX7_blocked 56 = .ok (.aload_n 0, 1) := dk_42 (blk_at bk_cX7_blocked_40 16 rfl)
theorem dX7_blocked_57 : decode cX7_blocked 57 = .ok (.getfield 20, 3) := dq_180 bk_cX7_blocked_40 17 rfl rfl
theorem dX7_blocked_60 : decode cX7_blocked 60 = .ok (.aload_n 2, 1) := dk_44 (blk_at bk_cX7_blocked_40 20 rfl)
theorem dX7_blocked_61 : decode cX7_blocked 61 = .ok (.aload_n 2, 1) := dk_44 (blk_at bk_cX7_blocked_40 21 rfl)
theorem dX7_blocked_62 : decode cX7_blocked 62 = .ok (.getfield 184, 3) := dq_180 bk_cX7_blocked_40 22 rfl rfl
theorem dX7_blocked_65 : decode cX7_blocked 65 = .ok (.iconst 1, 1) := dk_4 (blk_at bk_cX7_blocked_40 25 rfl)
theorem dX7_blocked_66 : decode cX7_blocked 66 = .ok (.iload 4, 2) := dq_21 bk_cX7_blocked_40 26 rfl rfl
theorem dX7_blocked_68 : decode cX7_blocked 68 = .ok (.ishl, 1) := dk_120 (blk_at bk_cX7_blocked_40 28 rfl)
theorem dX7_blocked_69 : decode cX7_blocked 69 = .ok (.invokevirtual 299, 3) := dq_182 bk_cX7_blocked_40 29 rfl rfl
theorem dX7_blocked_72 : decode cX7_blocked 72 = .ok (.ifCond .eq 10, 3) := dq_153 bk_cX7_blocked_40 32 rfl (by decide)
theorem dX7_blocked_75 : decode cX7_blocked 75 = .ok (.iload_n 3, 1) := dk_29 (blk_at bk_cX7_blocked_40 35 rfl)
theorem dX7_blocked_76 : decode cX7_blocked 76 = .ok (.iconst 1, 1) := dk_4 (blk_at bk_cX7_blocked_40 36 rfl)
theorem dX7_blocked_77 : decode cX7_blocked 77 = .ok (.iload 4, 2) := dq_21 bk_cX7_blocked_40 37 rfl rfl
theorem dX7_blocked_79 : decode cX7_blocked 79 = .ok (.ishl, 1) := dk_120 (blk_at bk_cX7_blocked_40 39 rfl)
theorem bk_cX7_blocked_80 : (cX7_blocked.data.toList.drop 80).take 10 = [128, 62, 132, 4, 1, 167, 255, 215, 29, 172] := by decide +kernel
theorem dX7_blocked_80 : decode cX7_blocked 80 = .ok (.ior, 1) := dk_128 (blk_at bk_cX7_blocked_80 0 rfl)
theorem dX7_blocked_81 : decode cX7_blocked 81 = .ok (.istore_n 3, 1) := dk_62 (blk_at bk_cX7_blocked_80 1 rfl)
theorem dX7_blocked_82 : decode cX7_blocked 82 = .ok (.iinc 4 1, 3) := dq_132 bk_cX7_blocked_80 2 rfl rfl (by decide)
theorem dX7_blocked_85 : decode cX7_blocked 85 = .ok (.goto (-41), 3) := dq_167 bk_cX7_blocked_80 5 rfl (by decide)
theorem dX7_blocked_88 : decode cX7_blocked 88 = .ok (.iload_n 3, 1) := dk_29 (blk_at bk_cX7_blocked_80 8 rfl)
theorem dX7_blocked_89 : decode cX7_blocked 89 = .ok (.ireturn, 1) := dk_172 (blk_at bk_cX7_blocked_80 9 rfl)
theorem bk_cX7_clash_0 : (cX7_clash.data.toList.drop 0).take 40 = [42, 27, 182, 0, 173, 153, 0, 11, 42, 28, 182, 0, 173, 154, 0, 6, 16, 254, 172, 42, 180, 0, 20, 180, 0, 176, 27, 50, 78, 42, 180, 0, 20, 180, 0, 176, 28, 50, 58, 4] := by decide +kernel
theorem dX7_clash_0 : decode cX7_clash 0 = .ok (.aload_n 0, 1) := dk_42 (blk_at bk_cX7_clash_0 0 rfl)
theorem dX7_clash_1 : decode cX7_clash 1 = .ok (.iload_n 1, 1) := dk_27 (blk_at bk_cX7_clash_0 1 rfl)
theorem dX7_clash_2 : decode cX7_clash 2 = .ok (.invokevirtual 173, 3) := dq_182 bk_cX7_clash_0 2 rfl rfl
theorem dX7_clash_5 : decode cX7_clash 5 = .ok (.ifCond .eq 11, 3) := dq_153 bk_cX7_clash_0 5 rfl (by decide)
theorem dX7_clash_8 : decode cX7_clash 8 = .ok (.aload_n 0, 1) := dk_42 (blk_at bk_cX7_clash_0 8 rfl)
theorem dX7_clash_9 : decode cX7_clash 9 = .ok (.iload_n 2, 1) := dk_28 (blk_at bk_cX7_clash_0 9 rfl)
theorem dX7_clash_10 : decode cX7_clash 10 = .ok (.invokevirtual 173, 3) := dq_182 bk_cX7_clash_0 10 rfl rfl
theorem dX7_clash_13 : decode cX7_clash 13 = .ok (.ifCond .ne 6, 3) := dq_154 bk_cX7_clash_0 13 rfl (by decide)
theorem dX7_clash_16 : decode cX7_clash 16 = .ok (.bipush (-2), 2) := dq_16 bk_cX7_clash_0 16 rfl (by decide)
theorem dX7_clash_18 : decode cX7_clash 18 = .ok (.ireturn, 1) := dk_172 (blk_at bk_cX7_clash_0 18 rfl)
theorem dX7_clash_19 : decode cX7_clash 19 = .ok (.aload_n 0, 1) := dk_42 (blk_at bk_cX7_clash_0 19 rfl)
theorem dX7_clash_20 : decode cX7_clash 20 = .ok (.getfield 20, 3) := dq_180 bk_cX7_clash_0 20 rfl rfl
theorem dX7_clash_23 : decode cX7_clash 23 = .ok (.getfield 176, 3) := dq_180 bk_cX7_clash_0 23 rfl rfl
theorem dX7_clash_26 : decode cX7_clash 26 = .ok (.iload_n 1, 1) := dk_27 (blk_at bk_cX7_clash_0 26 rfl)
theorem dX7_clash_27 : decode cX7_clash 27 = .ok (.aaload, 1) := dk_50 (blk_at bk_cX7_clash_0 27 rfl)
theorem dX7_clash_28 : decode cX7_clash 28 = .ok (.astore_n 3, 1) := dk_78 (blk_at bk_cX7_clash_0 28 rfl)
theorem dX7_clash_29 : decode cX7_clash 29 = .ok (.aload_n 0, 1) := dk_42 (blk_at bk_cX7_clash_0 29 rfl)
theorem dX7_clash_30 : decode cX7_clash 30 = .ok (.getfield 20, 3) := dq_180 bk_cX7_clash_0 30 rfl rfl
theorem dX7_clash_33 : decode cX7_clash 33 = .ok (.getfield 176, 3) := dq_180 bk_cX7_clash_0 33 rfl rfl
theorem dX7_clash_36 : decode cX7_clash 36 = .ok (.iload_n 2, 1) := dk_28 (blk_at bk_cX7_clash_0 36 rfl)
theorem dX7_clash_37 : decode cX7_clash 37 = .ok (.aaload, 1) := dk_50 (blk_at bk_cX7_clash_0 37 rfl)
theorem dX7_clash_38 : decode cX7_clash 38 = .ok (.astore 4, 2) := dq_58 bk_cX7_clash_0 38 rfl rfl
theorem bk_cX7_clash_40 : (cX7_clash.data.toList.drop 40).take 40 = [45, 180, 0, 183, 25, 4, 180, 0, 183, 160, 0, 15, 45, 180, 0, 184, 25, 4, 180, 0, 184, 159, 0, 5, 3, 172, 45, 182, 1, 51, 25, 4, 182, 1, 51, 126, 184, 0, 255, 172] := by decide +kernel
theorem dX7_clash_40 : decode cX7_clash 40 = .ok (.aload_n 3, 1) := dk_45 (blk_at bk_cX7_clash_40 0 rfl)
theorem dX7_clash_41 : decode cX7_clash 41 = .ok (.getfield 183, 3) := dq_180 bk_cX7_clash_40 1 rfl rfl
theorem dX7_clash_44 : decode cX7_clash 44 = .ok (.aload 4, 2) := dq_25 bk_cX7_clash_40 4 rfl rfl
theorem dX7_clash_46 : decode cX7_clash 46 = .ok (.getfield 183, 3) := dq_180 bk_cX7_clash_40 6 rfl rfl
theorem dX7_clash_49 : decode cX7_clash 49 = .ok (.if_icmp .ne 15, 3) := dq_160 bk_cX7_clash_40 9 rfl (by decide)
theorem dX7_clash_52 : decode cX7_clash 52 = .ok (.aload_n 3, 1) := dk_45 (blk_at bk_cX7_clash_40 12 rfl)
theorem dX7_clash_53 : decode cX7_clash 53 = .ok (.getfield 184, 3) := dq_180 bk_cX7_clash_40 13 rfl rfl
theorem dX7_clash_56 : decode cX7_clash 56 = .ok (.aload 4, 2) := dq_25 bk_cX7_clash_40 16 rfl rfl
theorem dX7_clash_58 : decode cX7_clash 58 = .ok (.getfield 184, 3) := dq_180 bk_cX7_clash_40 18 rfl rfl
theorem dX7_clash_61 : decode cX7_clash 61 = .ok (.if_icmp .eq 5, 3) := dq_159 bk_cX7_clash_40 21 rfl (by decide)
theorem dX7_clash_64 : decode cX7_clash 64 = .ok (.iconst 0, 1) := dk_3 (blk_at bk_cX7_clash_40 24 rfl)
theorem dX7_clash_65 : decode cX7_clash 65 = .ok (.ireturn, 1) := dk_172 (blk_at bk_cX7_clash_40 25 rfl)
theorem dX7_clash_66 : decode cX7_clash 66 = .ok (.aload_n 3, 1) := dk_45 (blk_at bk_cX7_clash_40 26 rfl)
theorem dX7_clash_67 : decode cX7_clash 67 = .ok (.invokevirtual 307, 3) := dq_182 bk_cX7_clash_40 27 rfl rfl
theorem dX7_clash_70 : decode cX7_clash 70 = .ok (.aload 4, 2) := dq_25 bk_cX7_clash_40 30 rfl rfl
theorem dX7_clash_72 : decode cX7_clash 72 = .ok (.invokevirtual 307, 3) := dq_182 bk_cX7_clash_40 32 rfl rfl
theorem dX7_clash_75 : decode cX7_clash 75 = .ok (.iand, 1) := dk_126 (blk_at bk_cX7_clash_40 35 rfl)
theorem dX7_clash_76 : decode cX7_clash 76 = .ok (.invokestatic 255, 3) := dq_184 bk_cX7_clash_40 36 rfl rfl
theorem dX7_clash_79 : decode cX7_clash 79 = .ok (.ireturn, 1) := dk_172 (blk_at bk_cX7_clash_40 39 rfl)
theorem bk_cX7_first_0 : (cX7_first.data.toList.drop 0).take 22 = [42, 182, 0, 121, 154, 0, 6, 16, 254, 172, 42, 180, 0, 54, 42, 180, 0, 20, 182, 1, 54, 172] := by decide +kernel
theorem dX7_first_0 : decode cX7_first 0 = .ok (.aload_n 0, 1) := dk_42 (blk_at bk_cX7_first_0 0 rfl)
theorem dX7_first_1 : decode cX7_first 1 = .ok (.invokevirtual 121, 3) := dq_182 bk_cX7_first_0 1 rfl rfl
theorem dX7_first_4 : decode cX7_first 4 = .ok (.ifCond .ne 6, 3) := dq_154 bk_cX7_first_0 4 rfl (by decide)
theorem dX7_first_7 : decode cX7_first 7 = .ok (.bipush (-2), 2) := dq_16 bk_cX7_first_0 7 rfl (by decide)
theorem dX7_first_9 : decode cX7_first 9 = .ok (.ireturn, 1) := dk_172 (blk_at bk_cX7_first_0 9 rfl)
theorem dX7_first_10 : decode cX7_first 10 = .ok (.aload_n 0, 1) := dk_42 (blk_at bk_cX7_first_0 10 rfl)
theorem dX7_first_11 : decode cX7_first 11 = .ok (.getfield 54, 3) := dq_180 bk_cX7_first_0 11 rfl rfl
theorem dX7_first_14 : decode cX7_first 14 = .ok (.aload_n 0, 1) := dk_42 (blk_at bk_cX7_first_0 14 rfl)
theorem dX7_first_15 : decode cX7_first 15 = .ok (.getfield 20, 3) := dq_180 bk_cX7_first_0 15 rfl rfl
theorem dX7_first_18 : decode cX7_first 18 = .ok (.invokevirtual 310, 3) := dq_182 bk_cX7_first_0 18 rfl rfl
theorem dX7_first_21 : decode cX7_first 21 = .ok (.ireturn, 1) := dk_172 (blk_at bk_cX7_first_0 21 rfl)
theorem bk_cX7_would_0 : (cX7_would.data.toList.drop 0).take 30 = [42, 182, 0, 121, 154, 0, 6, 16, 254, 172, 42, 180, 0, 54, 42, 180, 0, 20, 2, 182, 1, 58, 42, 180, 0, 54, 180, 1, 62, 172] := by decide +kernel
theorem dX7_would_0 : decode cX7_would 0 = .ok (.aload_n 0, 1) := dk_42 (blk_at bk_cX7_would_0 0 rfl)
theorem dX7_would_1 : decode cX7_would 1 = .ok (.invokevirtual 121, 3) := dq_182 bk_cX7_would_0 1 rfl rfl
theorem dX7_would_4 : decode cX7_would 4 = .ok (.ifCond .ne 6, 3) := dq_154 bk_cX7_would_0 4 rfl (by decide)
theorem dX7_would_7 : decode cX7_would 7 = .ok (.bipush (-2), 2) := dq_16 bk_cX7_would_0 7 rfl (by decide)
theorem dX7_would_9 : decode cX7_would 9 = .ok (.ireturn, 1) := dk_172 (blk_at bk_cX7_would_0 9 rfl)
theorem dX7_would_10 : decode cX7_would 10 = .ok (.aload_n 0, 1) := dk_42 (blk_at bk_cX7_would_0 10 rfl)
theorem dX7_would_11 : decode cX7_would 11 = .ok (.getfield 54, 3) := dq_180 bk_cX7_would_0 11 rfl rfl
theorem dX7_would_14 : decode cX7_would 14 = .ok (.aload_n 0, 1) := dk_42 (blk_at bk_cX7_would_0 14 rfl)
theorem dX7_would_15 : decode cX7_would 15 = .ok (.getfield 20, 3) := dq_180 bk_cX7_would_0 15 rfl rfl
theorem dX7_would_18 : decode cX7_would 18 = .ok (.iconst (-1), 1) := dk_2 (blk_at bk_cX7_would_0 18 rfl)
theorem dX7_would_19 : decode cX7_would 19 = .ok (.invokevirtual 314, 3) := dq_182 bk_cX7_would_0 19 rfl rfl
theorem dX7_would_22 : decode cX7_would 22 = .ok (.aload_n 0, 1) := dk_42 (blk_at bk_cX7_would_0 22 rfl)
theorem dX7_would_23 : decode cX7_would 23 = .ok (.getfield 54, 3) := dq_180 bk_cX7_would_0 23 rfl rfl
theorem dX7_would_26 : decode cX7_would 26 = .ok (.getfield 318, 3) := dq_180 bk_cX7_would_0 26 rfl rfl
theorem dX7_would_29 : decode cX7_would 29 = .ok (.ireturn, 1) := dk_172 (blk_at bk_cX7_would_0 29 rfl)
theorem bk_cX7_helps_0 : (cX7_helps.data.toList.drop 0).take 38 = [42, 182, 0, 121, 153, 0, 12, 27, 3, 4, 184, 0, 113, 154, 0, 6, 16, 254, 172, 3, 61, 2, 62, 3, 54, 4, 21, 4, 16, 24, 162, 0, 44, 42, 180, 0, 54, 42] := by decide +kernel
theorem dX7_helps_0 : decode cX7_helps 0 = .ok (.aload_n 0, 1) := dk_42 (blk_at bk_cX7_helps_0 0 rfl)
theorem dX7_helps_1 : decode cX7_helps 1 = .ok (.invokevirtual 121, 3) := dq_182 bk_cX7_helps_0 1 rfl rfl
theorem dX7_helps_4 : decode cX7_helps 4 = .ok (.ifCond .eq 12, 3) := dq_153 bk_cX7_helps_0 4 rfl (by decide)
theorem dX7_helps_7 : decode cX7_helps 7 = .ok (.iload_n 1, 1) := dk_27 (blk_at bk_cX7_helps_0 7 rfl)
theorem dX7_helps_8 : decode cX7_helps 8 = .ok (.iconst 0, 1) := dk_3 (blk_at bk_cX7_helps_0 8 rfl)
theorem dX7_helps_9 : decode cX7_helps 9 = .ok (.iconst 1, 1) := dk_4 (blk_at bk_cX7_helps_0 9 rfl)
theorem dX7_helps_10 : decode cX7_helps 10 = .ok (.invokestatic 113, 3) := dq_184 bk_cX7_helps_0 10 rfl rfl
theorem dX7_helps_13 : decode cX7_helps 13 = .ok (.ifCond .ne 6, 3) := dq_154 bk_cX7_helps_0 13 rfl (by decide)
theorem dX7_helps_16 : decode cX7_helps 16 = .ok (.bipush (-2), 2) := dq_16 bk_cX7_helps_0 16 rfl (by decide)
theorem dX7_helps_18 : decode cX7_helps 18 = .ok (.ireturn, 1) := dk_172 (blk_at bk_cX7_helps_0 18 rfl)
theorem dX7_helps_19 : decode cX7_helps 19 = .ok (.iconst 0, 1) := dk_3 (blk_at bk_cX7_helps_0 19 rfl)
theorem dX7_helps_20 : decode cX7_helps 20 = .ok (.istore_n 2, 1) := dk_61 (blk_at bk_cX7_helps_0 20 rfl)
theorem dX7_helps_21 : decode cX7_helps 21 = .ok (.iconst (-1), 1) := dk_2 (blk_at bk_cX7_helps_0 21 rfl)
theorem dX7_helps_22 : decode cX7_helps 22 = .ok (.istore_n 3, 1) := dk_62 (blk_at bk_cX7_helps_0 22 rfl)
theorem dX7_helps_23 : decode cX7_helps 23 = .ok (.iconst 0, 1) := dk_3 (blk_at bk_cX7_helps_0 23 rfl)
theorem dX7_helps_24 : decode cX7_helps 24 = .ok (.istore 4, 2) := dq_54 bk_cX7_helps_0 24 rfl rfl
theorem dX7_helps_26 : decode cX7_helps 26 = .ok (.iload 4, 2) := dq_21 bk_cX7_helps_0 26 rfl rfl
theorem dX7_helps_28 : decode cX7_helps 28 = .ok (.bipush 24, 2) := dq_16 bk_cX7_helps_0 28 rfl (by decide)
theorem dX7_helps_30 : decode cX7_helps 30 = .ok (.if_icmp .ge 44, 3) := dq_162 bk_cX7_helps_0 30 rfl (by decide)
theorem dX7_helps_33 : decode cX7_helps 33 = .ok (.aload_n 0, 1) := dk_42 (blk_at bk_cX7_helps_0 33 rfl)
theorem dX7_helps_34 : decode cX7_helps 34 = .ok (.getfield 54, 3) := dq_180 bk_cX7_helps_0 34 rfl rfl
theorem dX7_helps_37 : decode cX7_helps 37 = .ok (.aload_n 0, 1) := dk_42 (blk_at bk_cX7_helps_0 37 rfl)
theorem bk_cX7_helps_38 : (cX7_helps.data.toList.drop 38).take 40 = [180, 0, 20, 21, 4, 182, 1, 58, 42, 180, 0, 54, 180, 1, 62, 29, 164, 0, 14, 42, 180, 0, 54, 180, 1, 62, 62, 21, 4, 61, 132, 4, 1, 167, 255, 211, 27, 154, 0, 7] := by decide +kernel
theorem dX7_helps_38 : decode cX7_helps 38 = .ok (.getfield 20, 3) := dq_180 bk_cX7_helps_38 0 rfl rfl
theorem dX7_helps_41 : decode cX7_helps 41 = .ok (.iload 4, 2) := dq_21 bk_cX7_helps_38 3 rfl rfl
theorem dX7_helps_43 : decode cX7_helps 43 = .ok (.invokevirtual 314, 3) := dq_182 bk_cX7_helps_38 5 rfl rfl
theorem dX7_helps_46 : decode cX7_helps 46 = .ok (.aload_n 0, 1) := dk_42 (blk_at bk_cX7_helps_38 8 rfl)
theorem dX7_helps_47 : decode cX7_helps 47 = .ok (.getfield 54, 3) := dq_180 bk_cX7_helps_38 9 rfl rfl
theorem dX7_helps_50 : decode cX7_helps 50 = .ok (.getfield 318, 3) := dq_180 bk_cX7_helps_38 12 rfl rfl
theorem dX7_helps_53 : decode cX7_helps 53 = .ok (.iload_n 3, 1) := dk_29 (blk_at bk_cX7_helps_38 15 rfl)
theorem dX7_helps_54 : decode cX7_helps 54 = .ok (.if_icmp .le 14, 3) := dq_164 bk_cX7_helps_38 16 rfl (by decide)
theorem dX7_helps_57 : decode cX7_helps 57 = .ok (.aload_n 0, 1) := dk_42 (blk_at bk_cX7_helps_38 19 rfl)
theorem dX7_helps_58 : decode cX7_helps 58 = .ok (.getfield 54, 3) := dq_180 bk_cX7_helps_38 20 rfl rfl
theorem dX7_helps_61 : decode cX7_helps 61 = .ok (.getfield 318, 3) := dq_180 bk_cX7_helps_38 23 rfl rfl
theorem dX7_helps_64 : decode cX7_helps 64 = .ok (.istore_n 3, 1) := dk_62 (blk_at bk_cX7_helps_38 26 rfl)
theorem dX7_helps_65 : decode cX7_helps 65 = .ok (.iload 4, 2) := dq_21 bk_cX7_helps_38 27 rfl rfl
theorem dX7_helps_67 : decode cX7_helps 67 = .ok (.istore_n 2, 1) := dk_61 (blk_at bk_cX7_helps_38 29 rfl)
theorem dX7_helps_68 : decode cX7_helps 68 = .ok (.iinc 4 1, 3) := dq_132 bk_cX7_helps_38 30 rfl rfl (by decide)
theorem dX7_helps_71 : decode cX7_helps 71 = .ok (.goto (-45), 3) := dq_167 bk_cX7_helps_38 33 rfl (by decide)
theorem dX7_helps_74 : decode cX7_helps 74 = .ok (.iload_n 1, 1) := dk_27 (blk_at bk_cX7_helps_38 36 rfl)
theorem dX7_helps_75 : decode cX7_helps 75 = .ok (.ifCond .ne 7, 3) := dq_154 bk_cX7_helps_38 37 rfl (by decide)
theorem bk_cX7_helps_78 : (cX7_helps.data.toList.drop 78).take 6 = [28, 167, 0, 4, 29, 172] := by decide +kernel
theorem dX7_helps_78 : decode cX7_helps 78 = .ok (.iload_n 2, 1) := dk_28 (blk_at bk_cX7_helps_78 0 rfl)
theorem dX7_helps_79 : decode cX7_helps 79 = .ok (.goto 4, 3) := dq_167 bk_cX7_helps_78 1 rfl (by decide)
theorem dX7_helps_82 : decode cX7_helps 82 = .ok (.iload_n 3, 1) := dk_29 (blk_at bk_cX7_helps_78 4 rfl)
theorem dX7_helps_83 : decode cX7_helps 83 = .ok (.ireturn, 1) := dk_172 (blk_at bk_cX7_helps_78 5 rfl)
theorem bk_cX7_turn_0 : (cX7_turn.data.toList.drop 0).take 33 = [42, 27, 182, 0, 173, 154, 0, 6, 16, 254, 172, 42, 180, 0, 54, 42, 180, 0, 20, 2, 182, 1, 58, 42, 180, 0, 54, 180, 1, 65, 27, 46, 172] := by decide +kernel
theorem dX7_turn_0 : decode cX7_turn 0 = .ok (.aload_n 0, 1) := dk_42 (blk_at bk_cX7_turn_0 0 rfl)
theorem dX7_turn_1 : decode cX7_turn 1 = .ok (.iload_n 1, 1) := dk_27 (blk_at bk_cX7_turn_0 1 rfl)
theorem dX7_turn_2 : decode cX7_turn 2 = .ok (.invokevirtual 173, 3) := dq_182 bk_cX7_turn_0 2 rfl rfl
theorem dX7_turn_5 : decode cX7_turn 5 = .ok (.ifCond .ne 6, 3) := dq_154 bk_cX7_turn_0 5 rfl (by decide)
theorem dX7_turn_8 : decode cX7_turn 8 = .ok (.bipush (-2), 2) := dq_16 bk_cX7_turn_0 8 rfl (by decide)
theorem dX7_turn_10 : decode cX7_turn 10 = .ok (.ireturn, 1) := dk_172 (blk_at bk_cX7_turn_0 10 rfl)
theorem dX7_turn_11 : decode cX7_turn 11 = .ok (.aload_n 0, 1) := dk_42 (blk_at bk_cX7_turn_0 11 rfl)
theorem dX7_turn_12 : decode cX7_turn 12 = .ok (.getfield 54, 3) := dq_180 bk_cX7_turn_0 12 rfl rfl
theorem dX7_turn_15 : decode cX7_turn 15 = .ok (.aload_n 0, 1) := dk_42 (blk_at bk_cX7_turn_0 15 rfl)
theorem dX7_turn_16 : decode cX7_turn 16 = .ok (.getfield 20, 3) := dq_180 bk_cX7_turn_0 16 rfl rfl
theorem dX7_turn_19 : decode cX7_turn 19 = .ok (.iconst (-1), 1) := dk_2 (blk_at bk_cX7_turn_0 19 rfl)
theorem dX7_turn_20 : decode cX7_turn 20 = .ok (.invokevirtual 314, 3) := dq_182 bk_cX7_turn_0 20 rfl rfl
theorem dX7_turn_23 : decode cX7_turn 23 = .ok (.aload_n 0, 1) := dk_42 (blk_at bk_cX7_turn_0 23 rfl)
theorem dX7_turn_24 : decode cX7_turn 24 = .ok (.getfield 54, 3) := dq_180 bk_cX7_turn_0 24 rfl rfl
theorem dX7_turn_27 : decode cX7_turn 27 = .ok (.getfield 321, 3) := dq_180 bk_cX7_turn_0 27 rfl rfl
theorem dX7_turn_30 : decode cX7_turn 30 = .ok (.iload_n 1, 1) := dk_27 (blk_at bk_cX7_turn_0 30 rfl)
theorem dX7_turn_31 : decode cX7_turn 31 = .ok (.iaload, 1) := dk_46 (blk_at bk_cX7_turn_0 31 rfl)
theorem dX7_turn_32 : decode cX7_turn 32 = .ok (.ireturn, 1) := dk_172 (blk_at bk_cX7_turn_0 32 rfl)
theorem bk_cX7_granted_0 : (cX7_granted.data.toList.drop 0).take 33 = [42, 27, 182, 0, 173, 154, 0, 6, 16, 254, 172, 42, 180, 0, 54, 42, 180, 0, 20, 2, 182, 1, 58, 42, 180, 0, 54, 180, 1, 68, 27, 46, 172] := by decide +kernel
theorem dX7_granted_0 : decode cX7_granted 0 = .ok (.aload_n 0, 1) := dk_42 (blk_at bk_cX7_granted_0 0 rfl)
theorem dX7_granted_1 : decode cX7_granted 1 = .ok (.iload_n 1, 1) := dk_27 (blk_at bk_cX7_granted_0 1 rfl)
theorem dX7_granted_2 : decode cX7_granted 2 = .ok (.invokevirtual 173, 3) := dq_182 bk_cX7_granted_0 2 rfl rfl
theorem dX7_granted_5 : decode cX7_granted 5 = .ok (.ifCond .ne 6, 3) := dq_154 bk_cX7_granted_0 5 rfl (by decide)
theorem dX7_granted_8 : decode cX7_granted 8 = .ok (.bipush (-2), 2) := dq_16 bk_cX7_granted_0 8 rfl (by decide)
theorem dX7_granted_10 : decode cX7_granted 10 = .ok (.ireturn, 1) := dk_172 (blk_at bk_cX7_granted_0 10 rfl)
theorem dX7_granted_11 : decode cX7_granted 11 = .ok (.aload_n 0, 1) := dk_42 (blk_at bk_cX7_granted_0 11 rfl)
theorem dX7_granted_12 : decode cX7_granted 12 = .ok (.getfield 54, 3) := dq_180 bk_cX7_granted_0 12 rfl rfl
theorem dX7_granted_15 : decode cX7_granted 15 = .ok (.aload_n 0, 1) := dk_42 (blk_at bk_cX7_granted_0 15 rfl)
theorem dX7_granted_16 : decode cX7_granted 16 = .ok (.getfield 20, 3) := dq_180 bk_cX7_granted_0 16 rfl rfl
theorem dX7_granted_19 : decode cX7_granted 19 = .ok (.iconst (-1), 1) := dk_2 (blk_at bk_cX7_granted_0 19 rfl)
theorem dX7_granted_20 : decode cX7_granted 20 = .ok (.invokevirtual 314, 3) := dq_182 bk_cX7_granted_0 20 rfl rfl
theorem dX7_granted_23 : decode cX7_granted 23 = .ok (.aload_n 0, 1) := dk_42 (blk_at bk_cX7_granted_0 23 rfl)
theorem dX7_granted_24 : decode cX7_granted 24 = .ok (.getfield 54, 3) := dq_180 bk_cX7_granted_0 24 rfl rfl
theorem dX7_granted_27 : decode cX7_granted 27 = .ok (.getfield 324, 3) := dq_180 bk_cX7_granted_0 27 rfl rfl
theorem dX7_granted_30 : decode cX7_granted 30 = .ok (.iload_n 1, 1) := dk_27 (blk_at bk_cX7_granted_0 30 rfl)
theorem dX7_granted_31 : decode cX7_granted 31 = .ok (.iaload, 1) := dk_46 (blk_at bk_cX7_granted_0 31 rfl)
theorem dX7_granted_32 : decode cX7_granted 32 = .ok (.ireturn, 1) := dk_172 (blk_at bk_cX7_granted_0 32 rfl)
theorem bk_cX7_movable_0 : (cX7_movable.data.toList.drop 0).take 39 = [42, 27, 182, 0, 132, 154, 0, 6, 16, 254, 172, 3, 61, 3, 62, 29, 16, 24, 162, 0, 24, 42, 27, 29, 182, 1, 71, 153, 0, 9, 28, 4, 29, 120, 128, 61, 132, 3, 1] := by decide +kernel
theorem dX7_movable_0 : decode cX7_movable 0 = .ok (.aload_n 0, 1) := dk_42 (blk_at bk_cX7_movable_0 0 rfl)
theorem dX7_movable_1 : decode cX7_movable 1 = .ok (.iload_n 1, 1) := dk_27 (blk_at bk_cX7_movable_0 1 rfl)
theorem dX7_movable_2 : decode cX7_movable 2 = .ok (.invokevirtual 132, 3) := dq_182 bk_cX7_movable_0 2 rfl rfl
theorem dX7_movable_5 : decode cX7_movable 5 = .ok (.ifCond .ne 6, 3) := dq_154 bk_cX7_movable_0 5 rfl (by decide)
theorem dX7_movable_8 : decode cX7_movable 8 = .ok (.bipush (-2), 2) := dq_16 bk_cX7_movable_0 8 rfl (by decide)
theorem dX7_movable_10 : decode cX7_movable 10 = .ok (.ireturn, 1) := dk_172 (blk_at bk_cX7_movable_0 10 rfl)
theorem dX7_movable_11 : decode cX7_movable 11 = .ok (.iconst 0, 1) := dk_3 (blk_at bk_cX7_movable_0 11 rfl)
theorem dX7_movable_12 : decode cX7_movable 12 = .ok (.istore_n 2, 1) := dk_61 (blk_at bk_cX7_movable_0 12 rfl)
theorem dX7_movable_13 : decode cX7_movable 13 = .ok (.iconst 0, 1) := dk_3 (blk_at bk_cX7_movable_0 13 rfl)
theorem dX7_movable_14 : decode cX7_movable 14 = .ok (.istore_n 3, 1) := dk_62 (blk_at bk_cX7_movable_0 14 rfl)
theorem dX7_movable_15 : decode cX7_movable 15 = .ok (.iload_n 3, 1) := dk_29 (blk_at bk_cX7_movable_0 15 rfl)
theorem dX7_movable_16 : decode cX7_movable 16 = .ok (.bipush 24, 2) := dq_16 bk_cX7_movable_0 16 rfl (by decide)
theorem dX7_movable_18 : decode cX7_movable 18 = .ok (.if_icmp .ge 24, 3) := dq_162 bk_cX7_movable_0 18 rfl (by decide)
theorem dX7_movable_21 : decode cX7_movable 21 = .ok (.aload_n 0, 1) := dk_42 (blk_at bk_cX7_movable_0 21 rfl)
theorem dX7_movable_22 : decode cX7_movable 22 = .ok (.iload_n 1, 1) := dk_27 (blk_at bk_cX7_movable_0 22 rfl)
theorem dX7_movable_23 : decode cX7_movable 23 = .ok (.iload_n 3, 1) := dk_29 (blk_at bk_cX7_movable_0 23 rfl)
theorem dX7_movable_24 : decode cX7_movable 24 = .ok (.invokevirtual 327, 3) := dq_182 bk_cX7_movable_0 24 rfl rfl
theorem dX7_movable_27 : decode cX7_movable 27 = .ok (.ifCond .eq 9, 3) := dq_153 bk_cX7_movable_0 27 rfl (by decide)
theorem dX7_movable_30 : decode cX7_movable 30 = .ok (.iload_n 2, 1) := dk_28 (blk_at bk_cX7_movable_0 30 rfl)
theorem dX7_movable_31 : decode cX7_movable 31 = .ok (.iconst 1, 1) := dk_4 (blk_at bk_cX7_movable_0 31 rfl)
theorem dX7_movable_32 : decode cX7_movable 32 = .ok (.iload_n 3, 1) := dk_29 (blk_at bk_cX7_movable_0 32 rfl)
theorem dX7_movable_33 : decode cX7_movable 33 = .ok (.ishl, 1) := dk_120 (blk_at bk_cX7_movable_0 33 rfl)
theorem dX7_movable_34 : decode cX7_movable 34 = .ok (.ior, 1) := dk_128 (blk_at bk_cX7_movable_0 34 rfl)
theorem dX7_movable_35 : decode cX7_movable 35 = .ok (.istore_n 2, 1) := dk_61 (blk_at bk_cX7_movable_0 35 rfl)
theorem dX7_movable_36 : decode cX7_movable 36 = .ok (.iinc 3 1, 3) := dq_132 bk_cX7_movable_0 36 rfl rfl (by decide)
theorem bk_cX7_movable_39 : (cX7_movable.data.toList.drop 39).take 5 = [167, 255, 232, 28, 172] := by decide +kernel
theorem dX7_movable_39 : decode cX7_movable 39 = .ok (.goto (-24), 3) := dq_167 bk_cX7_movable_39 0 rfl (by decide)
theorem dX7_movable_42 : decode cX7_movable 42 = .ok (.iload_n 2, 1) := dk_28 (blk_at bk_cX7_movable_39 3 rfl)
theorem dX7_movable_43 : decode cX7_movable 43 = .ok (.ireturn, 1) := dk_172 (blk_at bk_cX7_movable_39 4 rfl)
theorem bk_cX7_partners_0 : (cX7_partners.data.toList.drop 0).take 40 = [42, 27, 182, 0, 132, 154, 0, 6, 16, 254, 172, 3, 61, 3, 62, 29, 42, 180, 0, 20, 180, 0, 97, 162, 0, 24, 42, 27, 29, 182, 1, 74, 154, 0, 9, 28, 4, 29, 120, 128] := by decide +kernel
theorem dX7_partners_0 : decode cX7_partners 0 = .ok (.aload_n 0, 1) := dk_42 (blk_at bk_cX7_partners_0 0 rfl)
theorem dX7_partners_1 : decode cX7_partners 1 = .ok (.iload_n 1, 1) := dk_27 (blk_at bk_cX7_partners_0 1 rfl)
theorem dX7_partners_2 : decode cX7_partners 2 = .ok (.invokevirtual 132, 3) := dq_182 bk_cX7_partners_0 2 rfl rfl
theorem dX7_partners_5 : decode cX7_partners 5 = .ok (.ifCond .ne 6, 3) := dq_154 bk_cX7_partners_0 5 rfl (by decide)
theorem dX7_partners_8 : decode cX7_partners 8 = .ok (.bipush (-2), 2) := dq_16 bk_cX7_partners_0 8 rfl (by decide)
theorem dX7_partners_10 : decode cX7_partners 10 = .ok (.ireturn, 1) := dk_172 (blk_at bk_cX7_partners_0 10 rfl)
theorem dX7_partners_11 : decode cX7_partners 11 = .ok (.iconst 0, 1) := dk_3 (blk_at bk_cX7_partners_0 11 rfl)
theorem dX7_partners_12 : decode cX7_partners 12 = .ok (.istore_n 2, 1) := dk_61 (blk_at bk_cX7_partners_0 12 rfl)
theorem dX7_partners_13 : decode cX7_partners 13 = .ok (.iconst 0, 1) := dk_3 (blk_at bk_cX7_partners_0 13 rfl)
theorem dX7_partners_14 : decode cX7_partners 14 = .ok (.istore_n 3, 1) := dk_62 (blk_at bk_cX7_partners_0 14 rfl)
theorem dX7_partners_15 : decode cX7_partners 15 = .ok (.iload_n 3, 1) := dk_29 (blk_at bk_cX7_partners_0 15 rfl)
theorem dX7_partners_16 : decode cX7_partners 16 = .ok (.aload_n 0, 1) := dk_42 (blk_at bk_cX7_partners_0 16 rfl)
theorem dX7_partners_17 : decode cX7_partners 17 = .ok (.getfield 20, 3) := dq_180 bk_cX7_partners_0 17 rfl rfl
theorem dX7_partners_20 : decode cX7_partners 20 = .ok (.getfield 97, 3) := dq_180 bk_cX7_partners_0 20 rfl rfl
theorem dX7_partners_23 : decode cX7_partners 23 = .ok (.if_icmp .ge 24, 3) := dq_162 bk_cX7_partners_0 23 rfl (by decide)
theorem dX7_partners_26 : decode cX7_partners 26 = .ok (.aload_n 0, 1) := dk_42 (blk_at bk_cX7_partners_0 26 rfl)
theorem dX7_partners_27 : decode cX7_partners 27 = .ok (.iload_n 1, 1) := dk_27 (blk_at bk_cX7_partners_0 27 rfl)
theorem dX7_partners_28 : decode cX7_partners 28 = .ok (.iload_n 3, 1) := dk_29 (blk_at bk_cX7_partners_0 28 rfl)
theorem dX7_partners_29 : decode cX7_partners 29 = .ok (.invokevirtual 330, 3) := dq_182 bk_cX7_partners_0 29 rfl rfl
theorem dX7_partners_32 : decode cX7_partners 32 = .ok (.ifCond .ne 9, 3) := dq_154 bk_cX7_partners_0 32 rfl (by decide)
theorem dX7_partners_35 : decode cX7_partners 35 = .ok (.iload_n 2, 1) := dk_28 (blk_at bk_cX7_partners_0 35 rfl)
theorem dX7_partners_36 : decode cX7_partners 36 = .ok (.iconst 1, 1) := dk_4 (blk_at bk_cX7_partners_0 36 rfl)
theorem dX7_partners_37 : decode cX7_partners 37 = .ok (.iload_n 3, 1) := dk_29 (blk_at bk_cX7_partners_0 37 rfl)
theorem dX7_partners_38 : decode cX7_partners 38 = .ok (.ishl, 1) := dk_120 (blk_at bk_cX7_partners_0 38 rfl)
theorem dX7_partners_39 : decode cX7_partners 39 = .ok (.ior, 1) := dk_128 (blk_at bk_cX7_partners_0 39 rfl)
theorem bk_cX7_partners_40 : (cX7_partners.data.toList.drop 40).take 9 = [61, 132, 3, 1, 167, 255, 227, 28, 172] := by decide +kernel
theorem dX7_partners_40 : decode cX7_partners 40 = .ok (.istore_n 2, 1) := dk_61 (blk_at bk_cX7_partners_40 0 rfl)
theorem dX7_partners_41 : decode cX7_partners 41 = .ok (.iinc 3 1, 3) := dq_132 bk_cX7_partners_40 1 rfl rfl (by decide)
theorem dX7_partners_44 : decode cX7_partners 44 = .ok (.goto (-29), 3) := dq_167 bk_cX7_partners_40 4 rfl (by decide)
theorem dX7_partners_47 : decode cX7_partners 47 = .ok (.iload_n 2, 1) := dk_28 (blk_at bk_cX7_partners_40 7 rfl)
theorem dX7_partners_48 : decode cX7_partners 48 = .ok (.ireturn, 1) := dk_172 (blk_at bk_cX7_partners_40 8 rfl)
theorem bk_cX7_miss_0 : (cX7_miss.data.toList.drop 0).take 39 = [42, 27, 182, 0, 132, 153, 0, 11, 42, 28, 182, 0, 167, 154, 0, 6, 16, 254, 172, 42, 180, 0, 20, 180, 0, 135, 27, 50, 78, 45, 28, 182, 0, 170, 154, 0, 14, 28, 42] := by decide +kernel
theorem dX7_miss_0 : decode cX7_miss 0 = .ok (.aload_n 0, 1) := dk_42 (blk_at bk_cX7_miss_0 0 rfl)
theorem dX7_miss_1 : decode cX7_miss 1 = .ok (.iload_n 1, 1) := dk_27 (blk_at bk_cX7_miss_0 1 rfl)
theorem dX7_miss_2 : decode cX7_miss 2 = .ok (.invokevirtual 132, 3) := dq_182 bk_cX7_miss_0 2 rfl rfl
theorem dX7_miss_5 : decode cX7_miss 5 = .ok (.ifCond .eq 11, 3) := dq_153 bk_cX7_miss_0 5 rfl (by decide)
theorem dX7_miss_8 : decode cX7_miss 8 = .ok (.aload_n 0, 1) := dk_42 (blk_at bk_cX7_miss_0 8 rfl)
theorem dX7_miss_9 : decode cX7_miss 9 = .ok (.iload_n 2, 1) := dk_28 (blk_at bk_cX7_miss_0 9 rfl)
theorem dX7_miss_10 : decode cX7_miss 10 = .ok (.invokevirtual 167, 3) := dq_182 bk_cX7_miss_0 10 rfl rfl
theorem dX7_miss_13 : decode cX7_miss 13 = .ok (.ifCond .ne 6, 3) := dq_154 bk_cX7_miss_0 13 rfl (by decide)
theorem dX7_miss_16 : decode cX7_miss 16 = .ok (.bipush (-2), 2) := dq_16 bk_cX7_miss_0 16 rfl (by decide)
theorem dX7_miss_18 : decode cX7_miss 18 = .ok (.ireturn, 1) := dk_172 (blk_at bk_cX7_miss_0 18 rfl)
theorem dX7_miss_19 : decode cX7_miss 19 = .ok (.aload_n 0, 1) := dk_42 (blk_at bk_cX7_miss_0 19 rfl)
theorem dX7_miss_20 : decode cX7_miss 20 = .ok (.getfield 20, 3) := dq_180 bk_cX7_miss_0 20 rfl rfl
theorem dX7_miss_23 : decode cX7_miss 23 = .ok (.getfield 135, 3) := dq_180 bk_cX7_miss_0 23 rfl rfl
theorem dX7_miss_26 : decode cX7_miss 26 = .ok (.iload_n 1, 1) := dk_27 (blk_at bk_cX7_miss_0 26 rfl)
theorem dX7_miss_27 : decode cX7_miss 27 = .ok (.aaload, 1) := dk_50 (blk_at bk_cX7_miss_0 27 rfl)
theorem dX7_miss_28 : decode cX7_miss 28 = .ok (.astore_n 3, 1) := dk_78 (blk_at bk_cX7_miss_0 28 rfl)
theorem dX7_miss_29 : decode cX7_miss 29 = .ok (.aload_n 3, 1) := dk_45 (blk_at bk_cX7_miss_0 29 rfl)
theorem dX7_miss_30 : decode cX7_miss 30 = .ok (.iload_n 2, 1) := dk_28 (blk_at bk_cX7_miss_0 30 rfl)
theorem dX7_miss_31 : decode cX7_miss 31 = .ok (.invokevirtual 170, 3) := dq_182 bk_cX7_miss_0 31 rfl rfl
theorem dX7_miss_34 : decode cX7_miss 34 = .ok (.ifCond .ne 14, 3) := dq_154 bk_cX7_miss_0 34 rfl (by decide)
theorem dX7_miss_37 : decode cX7_miss 37 = .ok (.iload_n 2, 1) := dk_28 (blk_at bk_cX7_miss_0 37 rfl)
theorem dX7_miss_38 : decode cX7_miss 38 = .ok (.aload_n 0, 1) := dk_42 (blk_at bk_cX7_miss_0 38 rfl)
theorem bk_cX7_miss_39 : (cX7_miss.data.toList.drop 39).take 33 = [180, 0, 20, 180, 0, 103, 162, 0, 6, 16, 250, 172, 42, 182, 1, 77, 45, 89, 180, 1, 10, 4, 28, 120, 128, 181, 1, 10, 45, 182, 0, 242, 172] := by decide +kernel
theorem dX7_miss_39 : decode cX7_miss 39 = .ok (.getfield 20, 3) := dq_180 bk_cX7_miss_39 0 rfl rfl
theorem dX7_miss_42 : decode cX7_miss 42 = .ok (.getfield 103, 3) := dq_180 bk_cX7_miss_39 3 rfl rfl
theorem dX7_miss_45 : decode cX7_miss 45 = .ok (.if_icmp .ge 6, 3) := dq_162 bk_cX7_miss_39 6 rfl (by decide)
theorem dX7_miss_48 : decode cX7_miss 48 = .ok (.bipush (-6), 2) := dq_16 bk_cX7_miss_39 9 rfl (by decide)
theorem dX7_miss_50 : decode cX7_miss 50 = .ok (.ireturn, 1) := dk_172 (blk_at bk_cX7_miss_39 11 rfl)
theorem dX7_miss_51 : decode cX7_miss 51 = .ok (.aload_n 0, 1) := dk_42 (blk_at bk_cX7_miss_39 12 rfl)
theorem dX7_miss_52 : decode cX7_miss 52 = .ok (.invokevirtual 333, 3) := dq_182 bk_cX7_miss_39 13 rfl rfl
theorem dX7_miss_55 : decode cX7_miss 55 = .ok (.aload_n 3, 1) := dk_45 (blk_at bk_cX7_miss_39 16 rfl)
theorem dX7_miss_56 : decode cX7_miss 56 = .ok (.dup, 1) := dk_89 (blk_at bk_cX7_miss_39 17 rfl)
theorem dX7_miss_57 : decode cX7_miss 57 = .ok (.getfield 266, 3) := dq_180 bk_cX7_miss_39 18 rfl rfl
theorem dX7_miss_60 : decode cX7_miss 60 = .ok (.iconst 1, 1) := dk_4 (blk_at bk_cX7_miss_39 21 rfl)
theorem dX7_miss_61 : decode cX7_miss 61 = .ok (.iload_n 2, 1) := dk_28 (blk_at bk_cX7_miss_39 22 rfl)
theorem dX7_miss_62 : decode cX7_miss 62 = .ok (.ishl, 1) := dk_120 (blk_at bk_cX7_miss_39 23 rfl)
theorem dX7_miss_63 : decode cX7_miss 63 = .ok (.ior, 1) := dk_128 (blk_at bk_cX7_miss_39 24 rfl)
theorem dX7_miss_64 : decode cX7_miss 64 = .ok (.putfield 266, 3) := dq_181 bk_cX7_miss_39 25 rfl rfl
theorem dX7_miss_67 : decode cX7_miss 67 = .ok (.aload_n 3, 1) := dk_45 (blk_at bk_cX7_miss_39 28 rfl)
theorem dX7_miss_68 : decode cX7_miss 68 = .ok (.invokevirtual 242, 3) := dq_182 bk_cX7_miss_39 29 rfl rfl
theorem dX7_miss_71 : decode cX7_miss 71 = .ok (.ireturn, 1) := dk_172 (blk_at bk_cX7_miss_39 32 rfl)
theorem bk_cX7_excuse_0 : (cX7_excuse.data.toList.drop 0).take 39 = [42, 27, 182, 0, 132, 153, 0, 11, 42, 28, 182, 0, 167, 154, 0, 6, 16, 254, 172, 42, 180, 0, 20, 180, 0, 135, 27, 50, 78, 45, 28, 182, 0, 170, 54, 4, 21, 4, 5] := by decide +kernel
theorem dX7_excuse_0 : decode cX7_excuse 0 = .ok (.aload_n 0, 1) := dk_42 (blk_at bk_cX7_excuse_0 0 rfl)
theorem dX7_excuse_1 : decode cX7_excuse 1 = .ok (.iload_n 1, 1) := dk_27 (blk_at bk_cX7_excuse_0 1 rfl)
theorem dX7_excuse_2 : decode cX7_excuse 2 = .ok (.invokevirtual 132, 3) := dq_182 bk_cX7_excuse_0 2 rfl rfl
theorem dX7_excuse_5 : decode cX7_excuse 5 = .ok (.ifCond .eq 11, 3) := dq_153 bk_cX7_excuse_0 5 rfl (by decide)
theorem dX7_excuse_8 : decode cX7_excuse 8 = .ok (.aload_n 0, 1) := dk_42 (blk_at bk_cX7_excuse_0 8 rfl)
theorem dX7_excuse_9 : decode cX7_excuse 9 = .ok (.iload_n 2, 1) := dk_28 (blk_at bk_cX7_excuse_0 9 rfl)
theorem dX7_excuse_10 : decode cX7_excuse 10 = .ok (.invokevirtual 167, 3) := dq_182 bk_cX7_excuse_0 10 rfl rfl
theorem dX7_excuse_13 : decode cX7_excuse 13 = .ok (.ifCond .ne 6, 3) := dq_154 bk_cX7_excuse_0 13 rfl (by decide)
theorem dX7_excuse_16 : decode cX7_excuse 16 = .ok (.bipush (-2), 2) := dq_16 bk_cX7_excuse_0 16 rfl (by decide)
theorem dX7_excuse_18 : decode cX7_excuse 18 = .ok (.ireturn, 1) := dk_172 (blk_at bk_cX7_excuse_0 18 rfl)
theorem dX7_excuse_19 : decode cX7_excuse 19 = .ok (.aload_n 0, 1) := dk_42 (blk_at bk_cX7_excuse_0 19 rfl)
theorem dX7_excuse_20 : decode cX7_excuse 20 = .ok (.getfield 20, 3) := dq_180 bk_cX7_excuse_0 20 rfl rfl
theorem dX7_excuse_23 : decode cX7_excuse 23 = .ok (.getfield 135, 3) := dq_180 bk_cX7_excuse_0 23 rfl rfl
theorem dX7_excuse_26 : decode cX7_excuse 26 = .ok (.iload_n 1, 1) := dk_27 (blk_at bk_cX7_excuse_0 26 rfl)
theorem dX7_excuse_27 : decode cX7_excuse 27 = .ok (.aaload, 1) := dk_50 (blk_at bk_cX7_excuse_0 27 rfl)
theorem dX7_excuse_28 : decode cX7_excuse 28 = .ok (.astore_n 3, 1) := dk_78 (blk_at bk_cX7_excuse_0 28 rfl)
theorem dX7_excuse_29 : decode cX7_excuse 29 = .ok (.aload_n 3, 1) := dk_45 (blk_at bk_cX7_excuse_0 29 rfl)
theorem dX7_excuse_30 : decode cX7_excuse 30 = .ok (.iload_n 2, 1) := dk_28 (blk_at bk_cX7_excuse_0 30 rfl)
theorem dX7_excuse_31 : decode cX7_excuse 31 = .ok (.invokevirtual 170, 3) := dq_182 bk_cX7_excuse_0 31 rfl rfl
theorem dX7_excuse_34 : decode cX7_excuse 34 = .ok (.istore 4, 2) := dq_54 bk_cX7_excuse_0 34 rfl rfl
theorem dX7_excuse_36 : decode cX7_excuse 36 = .ok (.iload 4, 2) := dq_21 bk_cX7_excuse_0 36 rfl rfl
theorem dX7_excuse_38 : decode cX7_excuse 38 = .ok (.iconst 2, 1) := dk_5 (blk_at bk_cX7_excuse_0 38 rfl)
theorem bk_cX7_excuse_39 : (cX7_excuse.data.toList.drop 39).take 38 = [159, 0, 11, 21, 4, 153, 0, 6, 16, 250, 172, 42, 182, 1, 77, 45, 89, 180, 1, 10, 4, 28, 120, 2, 130, 126, 181, 1, 10, 45, 89, 180, 1, 80, 4, 28, 120, 128] := by decide +kernel
theorem dX7_excuse_39 : decode cX7_excuse 39 = .ok (.if_icmp .eq 11, 3) := dq_159 bk_cX7_excuse_39 0 rfl (by decide)
theorem dX7_excuse_42 : decode cX7_excuse 42 = .ok (.iload 4, 2) := dq_21 bk_cX7_excuse_39 3 rfl rfl
theorem dX7_excuse_44 : decode cX7_excuse 44 = .ok (.ifCond .eq 6, 3) := dq_153 bk_cX7_excuse_39 5 rfl (by decide)
theorem dX7_excuse_47 : decode cX7_excuse 47 = .ok (.bipush (-6), 2) := dq_16 bk_cX7_excuse_39 8 rfl (by decide)
theorem dX7_excuse_49 : decode cX7_excuse 49 = .ok (.ireturn, 1) := dk_172 (blk_at bk_cX7_excuse_39 10 rfl)
theorem dX7_excuse_50 : decode cX7_excuse 50 = .ok (.aload_n 0, 1) := dk_42 (blk_at bk_cX7_excuse_39 11 rfl)
theorem dX7_excuse_51 : decode cX7_excuse 51 = .ok (.invokevirtual 333, 3) := dq_182 bk_cX7_excuse_39 12 rfl rfl
theorem dX7_excuse_54 : decode cX7_excuse 54 = .ok (.aload_n 3, 1) := dk_45 (blk_at bk_cX7_excuse_39 15 rfl)
theorem dX7_excuse_55 : decode cX7_excuse 55 = .ok (.dup, 1) := dk_89 (blk_at bk_cX7_excuse_39 16 rfl)
theorem dX7_excuse_56 : decode cX7_excuse 56 = .ok (.getfield 266, 3) := dq_180 bk_cX7_excuse_39 17 rfl rfl
theorem dX7_excuse_59 : decode cX7_excuse 59 = .ok (.iconst 1, 1) := dk_4 (blk_at bk_cX7_excuse_39 20 rfl)
theorem dX7_excuse_60 : decode cX7_excuse 60 = .ok (.iload_n 2, 1) := dk_28 (blk_at bk_cX7_excuse_39 21 rfl)
theorem dX7_excuse_61 : decode cX7_excuse 61 = .ok (.ishl, 1) := dk_120 (blk_at bk_cX7_excuse_39 22 rfl)
theorem dX7_excuse_62 : decode cX7_excuse 62 = .ok (.iconst (-1), 1) := dk_2 (blk_at bk_cX7_excuse_39 23 rfl)
theorem dX7_excuse_63 : decode cX7_excuse 63 = .ok (.ixor, 1) := dk_130 (blk_at bk_cX7_excuse_39 24 rfl)
theorem dX7_excuse_64 : decode cX7_excuse 64 = .ok (.iand, 1) := dk_126 (blk_at bk_cX7_excuse_39 25 rfl)
theorem dX7_excuse_65 : decode cX7_excuse 65 = .ok (.putfield 266, 3) := dq_181 bk_cX7_excuse_39 26 rfl rfl
theorem dX7_excuse_68 : decode cX7_excuse 68 = .ok (.aload_n 3, 1) := dk_45 (blk_at bk_cX7_excuse_39 29 rfl)
theorem dX7_excuse_69 : decode cX7_excuse 69 = .ok (.dup, 1) := dk_89 (blk_at bk_cX7_excuse_39 30 rfl)
theorem dX7_excuse_70 : decode cX7_excuse 70 = .ok (.getfield 336, 3) := dq_180 bk_cX7_excuse_39 31 rfl rfl
theorem dX7_excuse_73 : decode cX7_excuse 73 = .ok (.iconst 1, 1) := dk_4 (blk_at bk_cX7_excuse_39 34 rfl)
theorem dX7_excuse_74 : decode cX7_excuse 74 = .ok (.iload_n 2, 1) := dk_28 (blk_at bk_cX7_excuse_39 35 rfl)
theorem dX7_excuse_75 : decode cX7_excuse 75 = .ok (.ishl, 1) := dk_120 (blk_at bk_cX7_excuse_39 36 rfl)
theorem dX7_excuse_76 : decode cX7_excuse 76 = .ok (.ior, 1) := dk_128 (blk_at bk_cX7_excuse_39 37 rfl)
theorem bk_cX7_excuse_77 : (cX7_excuse.data.toList.drop 77).take 8 = [181, 1, 80, 45, 182, 0, 233, 172] := by decide +kernel
theorem dX7_excuse_77 : decode cX7_excuse 77 = .ok (.putfield 336, 3) := dq_181 bk_cX7_excuse_77 0 rfl rfl
theorem dX7_excuse_80 : decode cX7_excuse 80 = .ok (.aload_n 3, 1) := dk_45 (blk_at bk_cX7_excuse_77 3 rfl)
theorem dX7_excuse_81 : decode cX7_excuse 81 = .ok (.invokevirtual 233, 3) := dq_182 bk_cX7_excuse_77 4 rfl rfl
theorem dX7_excuse_84 : decode cX7_excuse 84 = .ok (.ireturn, 1) := dk_172 (blk_at bk_cX7_excuse_77 7 rfl)
theorem bk_cX7_fly_0 : (cX7_fly.data.toList.drop 0).take 39 = [42, 27, 182, 0, 132, 153, 0, 11, 42, 28, 182, 0, 167, 154, 0, 6, 16, 254, 172, 42, 180, 0, 20, 180, 0, 135, 27, 50, 78, 45, 28, 182, 0, 170, 54, 4, 21, 4, 5] := by decide +kernel
theorem dX7_fly_0 : decode cX7_fly 0 = .ok (.aload_n 0, 1) := dk_42 (blk_at bk_cX7_fly_0 0 rfl)
theorem dX7_fly_1 : decode cX7_fly 1 = .ok (.iload_n 1, 1) := dk_27 (blk_at bk_cX7_fly_0 1 rfl)
theorem dX7_fly_2 : decode cX7_fly 2 = .ok (.invokevirtual 132, 3) := dq_182 bk_cX7_fly_0 2 rfl rfl
theorem dX7_fly_5 : decode cX7_fly 5 = .ok (.ifCond .eq 11, 3) := dq_153 bk_cX7_fly_0 5 rfl (by decide)
theorem dX7_fly_8 : decode cX7_fly 8 = .ok (.aload_n 0, 1) := dk_42 (blk_at bk_cX7_fly_0 8 rfl)
theorem dX7_fly_9 : decode cX7_fly 9 = .ok (.iload_n 2, 1) := dk_28 (blk_at bk_cX7_fly_0 9 rfl)
theorem dX7_fly_10 : decode cX7_fly 10 = .ok (.invokevirtual 167, 3) := dq_182 bk_cX7_fly_0 10 rfl rfl
theorem dX7_fly_13 : decode cX7_fly 13 = .ok (.ifCond .ne 6, 3) := dq_154 bk_cX7_fly_0 13 rfl (by decide)
theorem dX7_fly_16 : decode cX7_fly 16 = .ok (.bipush (-2), 2) := dq_16 bk_cX7_fly_0 16 rfl (by decide)
theorem dX7_fly_18 : decode cX7_fly 18 = .ok (.ireturn, 1) := dk_172 (blk_at bk_cX7_fly_0 18 rfl)
theorem dX7_fly_19 : decode cX7_fly 19 = .ok (.aload_n 0, 1) := dk_42 (blk_at bk_cX7_fly_0 19 rfl)
theorem dX7_fly_20 : decode cX7_fly 20 = .ok (.getfield 20, 3) := dq_180 bk_cX7_fly_0 20 rfl rfl
theorem dX7_fly_23 : decode cX7_fly 23 = .ok (.getfield 135, 3) := dq_180 bk_cX7_fly_0 23 rfl rfl
theorem dX7_fly_26 : decode cX7_fly 26 = .ok (.iload_n 1, 1) := dk_27 (blk_at bk_cX7_fly_0 26 rfl)
theorem dX7_fly_27 : decode cX7_fly 27 = .ok (.aaload, 1) := dk_50 (blk_at bk_cX7_fly_0 27 rfl)
theorem dX7_fly_28 : decode cX7_fly 28 = .ok (.astore_n 3, 1) := dk_78 (blk_at bk_cX7_fly_0 28 rfl)
theorem dX7_fly_29 : decode cX7_fly 29 = .ok (.aload_n 3, 1) := dk_45 (blk_at bk_cX7_fly_0 29 rfl)
theorem dX7_fly_30 : decode cX7_fly 30 = .ok (.iload_n 2, 1) := dk_28 (blk_at bk_cX7_fly_0 30 rfl)
theorem dX7_fly_31 : decode cX7_fly 31 = .ok (.invokevirtual 170, 3) := dq_182 bk_cX7_fly_0 31 rfl rfl
theorem dX7_fly_34 : decode cX7_fly 34 = .ok (.istore 4, 2) := dq_54 bk_cX7_fly_0 34 rfl rfl
theorem dX7_fly_36 : decode cX7_fly 36 = .ok (.iload 4, 2) := dq_21 bk_cX7_fly_0 36 rfl rfl
theorem dX7_fly_38 : decode cX7_fly 38 = .ok (.iconst 2, 1) := dk_5 (blk_at bk_cX7_fly_0 38 rfl)
theorem bk_cX7_fly_39 : (cX7_fly.data.toList.drop 39).take 38 = [159, 0, 9, 21, 4, 6, 160, 0, 14, 28, 42, 180, 0, 20, 180, 0, 103, 162, 0, 6, 16, 250, 172, 42, 182, 1, 77, 45, 89, 180, 1, 10, 4, 28, 120, 2, 130, 126] := by decide +kernel
theorem dX7_fly_39 : decode cX7_fly 39 = .ok (.if_icmp .eq 9, 3) := dq_159 bk_cX7_fly_39 0 rfl (by decide)
theorem dX7_fly_42 : decode cX7_fly 42 = .ok (.iload 4, 2) := dq_21 bk_cX7_fly_39 3 rfl rfl
theorem dX7_fly_44 : decode cX7_fly 44 = .ok (.iconst 3, 1) := dk_6 (blk_at bk_cX7_fly_39 5 rfl)
theorem dX7_fly_45 : decode cX7_fly 45 = .ok (.if_icmp .ne 14, 3) := dq_160 bk_cX7_fly_39 6 rfl (by decide)
theorem dX7_fly_48 : decode cX7_fly 48 = .ok (.iload_n 2, 1) := dk_28 (blk_at bk_cX7_fly_39 9 rfl)
theorem dX7_fly_49 : decode cX7_fly 49 = .ok (.aload_n 0, 1) := dk_42 (blk_at bk_cX7_fly_39 10 rfl)
theorem dX7_fly_50 : decode cX7_fly 50 = .ok (.getfield 20, 3) := dq_180 bk_cX7_fly_39 11 rfl rfl
theorem dX7_fly_53 : decode cX7_fly 53 = .ok (.getfield 103, 3) := dq_180 bk_cX7_fly_39 14 rfl rfl
theorem dX7_fly_56 : decode cX7_fly 56 = .ok (.if_icmp .ge 6, 3) := dq_162 bk_cX7_fly_39 17 rfl (by decide)
theorem dX7_fly_59 : decode cX7_fly 59 = .ok (.bipush (-6), 2) := dq_16 bk_cX7_fly_39 20 rfl (by decide)
theorem dX7_fly_61 : decode cX7_fly 61 = .ok (.ireturn, 1) := dk_172 (blk_at bk_cX7_fly_39 22 rfl)
theorem dX7_fly_62 : decode cX7_fly 62 = .ok (.aload_n 0, 1) := dk_42 (blk_at bk_cX7_fly_39 23 rfl)
theorem dX7_fly_63 : decode cX7_fly 63 = .ok (.invokevirtual 333, 3) := dq_182 bk_cX7_fly_39 24 rfl rfl
theorem dX7_fly_66 : decode cX7_fly 66 = .ok (.aload_n 3, 1) := dk_45 (blk_at bk_cX7_fly_39 27 rfl)
theorem dX7_fly_67 : decode cX7_fly 67 = .ok (.dup, 1) := dk_89 (blk_at bk_cX7_fly_39 28 rfl)
theorem dX7_fly_68 : decode cX7_fly 68 = .ok (.getfield 266, 3) := dq_180 bk_cX7_fly_39 29 rfl rfl
theorem dX7_fly_71 : decode cX7_fly 71 = .ok (.iconst 1, 1) := dk_4 (blk_at bk_cX7_fly_39 32 rfl)
theorem dX7_fly_72 : decode cX7_fly 72 = .ok (.iload_n 2, 1) := dk_28 (blk_at bk_cX7_fly_39 33 rfl)
theorem dX7_fly_73 : decode cX7_fly 73 = .ok (.ishl, 1) := dk_120 (blk_at bk_cX7_fly_39 34 rfl)
theorem dX7_fly_74 : decode cX7_fly 74 = .ok (.iconst (-1), 1) := dk_2 (blk_at bk_cX7_fly_39 35 rfl)
theorem dX7_fly_75 : decode cX7_fly 75 = .ok (.ixor, 1) := dk_130 (blk_at bk_cX7_fly_39 36 rfl)
theorem dX7_fly_76 : decode cX7_fly 76 = .ok (.iand, 1) := dk_126 (blk_at bk_cX7_fly_39 37 rfl)
theorem bk_cX7_fly_77 : (cX7_fly.data.toList.drop 77).take 20 = [181, 1, 10, 45, 89, 180, 1, 80, 4, 28, 120, 2, 130, 126, 181, 1, 80, 21, 4, 172] := by decide +kernel
theorem dX7_fly_77 : decode cX7_fly 77 = .ok (.putfield 266, 3) := dq_181 bk_cX7_fly_77 0 rfl rfl
theorem dX7_fly_80 : decode cX7_fly 80 = .ok (.aload_n 3, 1) := dk_45 (blk_at bk_cX7_fly_77 3 rfl)
theorem dX7_fly_81 : decode cX7_fly 81 = .ok (.dup, 1) := dk_89 (blk_at bk_cX7_fly_77 4 rfl)
theorem dX7_fly_82 : decode cX7_fly 82 = .ok (.getfield 336, 3) := dq_180 bk_cX7_fly_77 5 rfl rfl
theorem dX7_fly_85 : decode cX7_fly 85 = .ok (.iconst 1, 1) := dk_4 (blk_at bk_cX7_fly_77 8 rfl)
theorem dX7_fly_86 : decode cX7_fly 86 = .ok (.iload_n 2, 1) := dk_28 (blk_at bk_cX7_fly_77 9 rfl)
theorem dX7_fly_87 : decode cX7_fly 87 = .ok (.ishl, 1) := dk_120 (blk_at bk_cX7_fly_77 10 rfl)
theorem dX7_fly_88 : decode cX7_fly 88 = .ok (.iconst (-1), 1) := dk_2 (blk_at bk_cX7_fly_77 11 rfl)
theorem dX7_fly_89 : decode cX7_fly 89 = .ok (.ixor, 1) := dk_130 (blk_at bk_cX7_fly_77 12 rfl)
theorem dX7_fly_90 : decode cX7_fly 90 = .ok (.iand, 1) := dk_126 (blk_at bk_cX7_fly_77 13 rfl)
theorem dX7_fly_91 : decode cX7_fly 91 = .ok (.putfield 336, 3) := dq_181 bk_cX7_fly_77 14 rfl rfl
theorem dX7_fly_94 : decode cX7_fly 94 = .ok (.iload 4, 2) := dq_21 bk_cX7_fly_77 17 rfl rfl
theorem dX7_fly_96 : decode cX7_fly 96 = .ok (.ireturn, 1) := dk_172 (blk_at bk_cX7_fly_77 19 rfl)
theorem bk_cX7_back_0 : (cX7_back.data.toList.drop 0).take 39 = [42, 27, 182, 0, 132, 153, 0, 11, 42, 28, 182, 0, 167, 154, 0, 6, 16, 254, 172, 28, 42, 180, 0, 20, 180, 0, 103, 7, 96, 162, 0, 6, 16, 250, 172, 42, 180, 0, 20] := by decide +kernel
theorem dX7_back_0 : decode cX7_back 0 = .ok (.aload_n 0, 1) := dk_42 (blk_at bk_cX7_back_0 0 rfl)
theorem dX7_back_1 : decode cX7_back 1 = .ok (.iload_n 1, 1) := dk_27 (blk_at bk_cX7_back_0 1 rfl)
theorem dX7_back_2 : decode cX7_back 2 = .ok (.invokevirtual 132, 3) := dq_182 bk_cX7_back_0 2 rfl rfl
theorem dX7_back_5 : decode cX7_back 5 = .ok (.ifCond .eq 11, 3) := dq_153 bk_cX7_back_0 5 rfl (by decide)
theorem dX7_back_8 : decode cX7_back 8 = .ok (.aload_n 0, 1) := dk_42 (blk_at bk_cX7_back_0 8 rfl)
theorem dX7_back_9 : decode cX7_back 9 = .ok (.iload_n 2, 1) := dk_28 (blk_at bk_cX7_back_0 9 rfl)
theorem dX7_back_10 : decode cX7_back 10 = .ok (.invokevirtual 167, 3) := dq_182 bk_cX7_back_0 10 rfl rfl
theorem dX7_back_13 : decode cX7_back 13 = .ok (.ifCond .ne 6, 3) := dq_154 bk_cX7_back_0 13 rfl (by decide)
theorem dX7_back_16 : decode cX7_back 16 = .ok (.bipush (-2), 2) := dq_16 bk_cX7_back_0 16 rfl (by decide)
theorem dX7_back_18 : decode cX7_back 18 = .ok (.ireturn, 1) := dk_172 (blk_at bk_cX7_back_0 18 rfl)
theorem dX7_back_19 : decode cX7_back 19 = .ok (.iload_n 2, 1) := dk_28 (blk_at bk_cX7_back_0 19 rfl)
theorem dX7_back_20 : decode cX7_back 20 = .ok (.aload_n 0, 1) := dk_42 (blk_at bk_cX7_back_0 20 rfl)
theorem dX7_back_21 : decode cX7_back 21 = .ok (.getfield 20, 3) := dq_180 bk_cX7_back_0 21 rfl rfl
theorem dX7_back_24 : decode cX7_back 24 = .ok (.getfield 103, 3) := dq_180 bk_cX7_back_0 24 rfl rfl
theorem dX7_back_27 : decode cX7_back 27 = .ok (.iconst 4, 1) := dk_7 (blk_at bk_cX7_back_0 27 rfl)
theorem dX7_back_28 : decode cX7_back 28 = .ok (.iadd, 1) := dk_96 (blk_at bk_cX7_back_0 28 rfl)
theorem dX7_back_29 : decode cX7_back 29 = .ok (.if_icmp .ge 6, 3) := dq_162 bk_cX7_back_0 29 rfl (by decide)
theorem dX7_back_32 : decode cX7_back 32 = .ok (.bipush (-6), 2) := dq_16 bk_cX7_back_0 32 rfl (by decide)
theorem dX7_back_34 : decode cX7_back 34 = .ok (.ireturn, 1) := dk_172 (blk_at bk_cX7_back_0 34 rfl)
theorem dX7_back_35 : decode cX7_back 35 = .ok (.aload_n 0, 1) := dk_42 (blk_at bk_cX7_back_0 35 rfl)
theorem dX7_back_36 : decode cX7_back 36 = .ok (.getfield 20, 3) := dq_180 bk_cX7_back_0 36 rfl rfl
theorem bk_cX7_back_39 : (cX7_back.data.toList.drop 39).take 39 = [180, 0, 135, 27, 50, 78, 45, 182, 1, 83, 28, 184, 1, 86, 126, 54, 4, 21, 4, 153, 0, 18, 42, 182, 1, 77, 45, 89, 180, 1, 89, 21, 4, 128, 181, 1, 89, 21, 4] := by decide +kernel
theorem dX7_back_39 : decode cX7_back 39 = .ok (.getfield 135, 3) := dq_180 bk_cX7_back_39 0 rfl rfl
theorem dX7_back_42 : decode cX7_back 42 = .ok (.iload_n 1, 1) := dk_27 (blk_at bk_cX7_back_39 3 rfl)
theorem dX7_back_43 : decode cX7_back 43 = .ok (.aaload, 1) := dk_50 (blk_at bk_cX7_back_39 4 rfl)
theorem dX7_back_44 : decode cX7_back 44 = .ok (.astore_n 3, 1) := dk_78 (blk_at bk_cX7_back_39 5 rfl)
theorem dX7_back_45 : decode cX7_back 45 = .ok (.aload_n 3, 1) := dk_45 (blk_at bk_cX7_back_39 6 rfl)
theorem dX7_back_46 : decode cX7_back 46 = .ok (.invokevirtual 339, 3) := dq_182 bk_cX7_back_39 7 rfl rfl
theorem dX7_back_49 : decode cX7_back 49 = .ok (.iload_n 2, 1) := dk_28 (blk_at bk_cX7_back_39 10 rfl)
theorem dX7_back_50 : decode cX7_back 50 = .ok (.invokestatic 342, 3) := dq_184 bk_cX7_back_39 11 rfl rfl
theorem dX7_back_53 : decode cX7_back 53 = .ok (.iand, 1) := dk_126 (blk_at bk_cX7_back_39 14 rfl)
theorem dX7_back_54 : decode cX7_back 54 = .ok (.istore 4, 2) := dq_54 bk_cX7_back_39 15 rfl rfl
theorem dX7_back_56 : decode cX7_back 56 = .ok (.iload 4, 2) := dq_21 bk_cX7_back_39 17 rfl rfl
theorem dX7_back_58 : decode cX7_back 58 = .ok (.ifCond .eq 18, 3) := dq_153 bk_cX7_back_39 19 rfl (by decide)
theorem dX7_back_61 : decode cX7_back 61 = .ok (.aload_n 0, 1) := dk_42 (blk_at bk_cX7_back_39 22 rfl)
theorem dX7_back_62 : decode cX7_back 62 = .ok (.invokevirtual 333, 3) := dq_182 bk_cX7_back_39 23 rfl rfl
theorem dX7_back_65 : decode cX7_back 65 = .ok (.aload_n 3, 1) := dk_45 (blk_at bk_cX7_back_39 26 rfl)
theorem dX7_back_66 : decode cX7_back 66 = .ok (.dup, 1) := dk_89 (blk_at bk_cX7_back_39 27 rfl)
theorem dX7_back_67 : decode cX7_back 67 = .ok (.getfield 345, 3) := dq_180 bk_cX7_back_39 28 rfl rfl
theorem dX7_back_70 : decode cX7_back 70 = .ok (.iload 4, 2) := dq_21 bk_cX7_back_39 31 rfl rfl
theorem dX7_back_72 : decode cX7_back 72 = .ok (.ior, 1) := dk_128 (blk_at bk_cX7_back_39 33 rfl)
theorem dX7_back_73 : decode cX7_back 73 = .ok (.putfield 345, 3) := dq_181 bk_cX7_back_39 34 rfl rfl
theorem dX7_back_76 : decode cX7_back 76 = .ok (.iload 4, 2) := dq_21 bk_cX7_back_39 37 rfl rfl
theorem bk_cX7_back_78 : (cX7_back.data.toList.drop 78).take 4 = [184, 0, 255, 172] := by decide +kernel
theorem dX7_back_78 : decode cX7_back 78 = .ok (.invokestatic 255, 3) := dq_184 bk_cX7_back_78 0 rfl rfl
theorem dX7_back_81 : decode cX7_back 81 = .ok (.ireturn, 1) := dk_172 (blk_at bk_cX7_back_78 3 rfl)
theorem bk_cX7_gives_0 : (cX7_gives.data.toList.drop 0).take 40 = [42, 27, 182, 0, 109, 153, 0, 11, 42, 28, 182, 0, 245, 154, 0, 6, 16, 254, 172, 42, 180, 0, 20, 180, 0, 103, 7, 96, 184, 1, 86, 62, 3, 54, 4, 3, 54, 5, 21, 5] := by decide +kernel
theorem dX7_gives_0 : decode cX7_gives 0 = .ok (.aload_n 0, 1) := dk_42 (blk_at bk_cX7_gives_0 0 rfl)
theorem dX7_gives_1 : decode cX7_gives 1 = .ok (.iload_n 1, 1) := dk_27 (blk_at bk_cX7_gives_0 1 rfl)
theorem dX7_gives_2 : decode cX7_gives 2 = .ok (.invokevirtual 109, 3) := dq_182 bk_cX7_gives_0 2 rfl rfl
theorem dX7_gives_5 : decode cX7_gives 5 = .ok (.ifCond .eq 11, 3) := dq_153 bk_cX7_gives_0 5 rfl (by decide)
theorem dX7_gives_8 : decode cX7_gives 8 = .ok (.aload_n 0, 1) := dk_42 (blk_at bk_cX7_gives_0 8 rfl)
theorem dX7_gives_9 : decode cX7_gives 9 = .ok (.iload_n 2, 1) := dk_28 (blk_at bk_cX7_gives_0 9 rfl)
theorem dX7_gives_10 : decode cX7_gives 10 = .ok (.invokevirtual 245, 3) := dq_182 bk_cX7_gives_0 10 rfl rfl
theorem dX7_gives_13 : decode cX7_gives 13 = .ok (.ifCond .ne 6, 3) := dq_154 bk_cX7_gives_0 13 rfl (by decide)
theorem dX7_gives_16 : decode cX7_gives 16 = .ok (.bipush (-2), 2) := dq_16 bk_cX7_gives_0 16 rfl (by decide)
theorem dX7_gives_18 : decode cX7_gives 18 = .ok (.ireturn, 1) := dk_172 (blk_at bk_cX7_gives_0 18 rfl)
theorem dX7_gives_19 : decode cX7_gives 19 = .ok (.aload_n 0, 1) := dk_42 (blk_at bk_cX7_gives_0 19 rfl)
theorem dX7_gives_20 : decode cX7_gives 20 = .ok (.getfield 20, 3) := dq_180 bk_cX7_gives_0 20 rfl rfl
theorem dX7_gives_23 : decode cX7_gives 23 = .ok (.getfield 103, 3) := dq_180 bk_cX7_gives_0 23 rfl rfl
theorem dX7_gives_26 : decode cX7_gives 26 = .ok (.iconst 4, 1) := dk_7 (blk_at bk_cX7_gives_0 26 rfl)
theorem dX7_gives_27 : decode cX7_gives 27 = .ok (.iadd, 1) := dk_96 (blk_at bk_cX7_gives_0 27 rfl)
theorem dX7_gives_28 : decode cX7_gives 28 = .ok (.invokestatic 342, 3) := dq_184 bk_cX7_gives_0 28 rfl rfl
theorem dX7_gives_31 : decode cX7_gives 31 = .ok (.istore_n 3, 1) := dk_62 (blk_at bk_cX7_gives_0 31 rfl)
theorem dX7_gives_32 : decode cX7_gives 32 = .ok (.iconst 0, 1) := dk_3 (blk_at bk_cX7_gives_0 32 rfl)
theorem dX7_gives_33 : decode cX7_gives 33 = .ok (.istore 4, 2) := dq_54 bk_cX7_gives_0 33 rfl rfl
theorem dX7_gives_35 : decode cX7_gives 35 = .ok (.iconst 0, 1) := dk_3 (blk_at bk_cX7_gives_0 35 rfl)
theorem dX7_gives_36 : decode cX7_gives 36 = .ok (.istore 5, 2) := dq_54 bk_cX7_gives_0 36 rfl rfl
theorem dX7_gives_38 : decode cX7_gives 38 = .ok (.iload 5, 2) := dq_21 bk_cX7_gives_0 38 rfl rfl
theorem bk_cX7_gives_40 : (cX7_gives.data.toList.drop 40).take 39 = [42, 180, 0, 20, 180, 0, 97, 162, 0, 80, 42, 180, 0, 20, 180, 0, 135, 21, 5, 50, 58, 6, 25, 6, 27, 28, 182, 0, 248, 153, 0, 13, 25, 6, 182, 1, 83, 29, 126] := by decide +kernel
theorem dX7_gives_40 : decode cX7_gives 40 = .ok (.aload_n 0, 1) := dk_42 (blk_at bk_cX7_gives_40 0 rfl)
theorem dX7_gives_41 : decode cX7_gives 41 = .ok (.getfield 20, 3) := dq_180 bk_cX7_gives_40 1 rfl rfl
theorem dX7_gives_44 : decode cX7_gives 44 = .ok (.getfield 97, 3) := dq_180 bk_cX7_gives_40 4 rfl rfl
theorem dX7_gives_47 : decode cX7_gives 47 = .ok (.if_icmp .ge 80, 3) := dq_162 bk_cX7_gives_40 7 rfl (by decide)
theorem dX7_gives_50 : decode cX7_gives 50 = .ok (.aload_n 0, 1) := dk_42 (blk_at bk_cX7_gives_40 10 rfl)
theorem dX7_gives_51 : decode cX7_gives 51 = .ok (.getfield 20, 3) := dq_180 bk_cX7_gives_40 11 rfl rfl
theorem dX7_gives_54 : decode cX7_gives 54 = .ok (.getfield 135, 3) := dq_180 bk_cX7_gives_40 14 rfl rfl
theorem dX7_gives_57 : decode cX7_gives 57 = .ok (.iload 5, 2) := dq_21 bk_cX7_gives_40 17 rfl rfl
theorem dX7_gives_59 : decode cX7_gives 59 = .ok (.aaload, 1) := dk_50 (blk_at bk_cX7_gives_40 19 rfl)
theorem dX7_gives_60 : decode cX7_gives 60 = .ok (.astore 6, 2) := dq_58 bk_cX7_gives_40 20 rfl rfl
theorem dX7_gives_62 : decode cX7_gives 62 = .ok (.aload 6, 2) := dq_25 bk_cX7_gives_40 22 rfl rfl
theorem dX7_gives_64 : decode cX7_gives 64 = .ok (.iload_n 1, 1) := dk_27 (blk_at bk_cX7_gives_40 24 rfl)
theorem dX7_gives_65 : decode cX7_gives 65 = .ok (.iload_n 2, 1) := dk_28 (blk_at bk_cX7_gives_40 25 rfl)
theorem dX7_gives_66 : decode cX7_gives 66 = .ok (.invokevirtual 248, 3) := dq_182 bk_cX7_gives_40 26 rfl rfl
theorem dX7_gives_69 : decode cX7_gives 69 = .ok (.ifCond .eq 13, 3) := dq_153 bk_cX7_gives_40 29 rfl (by decide)
theorem dX7_gives_72 : decode cX7_gives 72 = .ok (.aload 6, 2) := dq_25 bk_cX7_gives_40 32 rfl rfl
theorem dX7_gives_74 : decode cX7_gives 74 = .ok (.invokevirtual 339, 3) := dq_182 bk_cX7_gives_40 34 rfl rfl
theorem dX7_gives_77 : decode cX7_gives 77 = .ok (.iload_n 3, 1) := dk_29 (blk_at bk_cX7_gives_40 37 rfl)
theorem dX7_gives_78 : decode cX7_gives 78 = .ok (.iand, 1) := dk_126 (blk_at bk_cX7_gives_40 38 rfl)
theorem bk_cX7_gives_79 : (cX7_gives.data.toList.drop 79).take 40 = [167, 0, 4, 3, 54, 7, 21, 7, 153, 0, 34, 21, 4, 154, 0, 7, 42, 182, 1, 77, 25, 6, 89, 180, 1, 89, 21, 7, 128, 181, 1, 89, 21, 4, 21, 7, 184, 0, 255, 96] := by decide +kernel
theorem dX7_gives_79 : decode cX7_gives 79 = .ok (.goto 4, 3) := dq_167 bk_cX7_gives_79 0 rfl (by decide)
theorem dX7_gives_82 : decode cX7_gives 82 = .ok (.iconst 0, 1) := dk_3 (blk_at bk_cX7_gives_79 3 rfl)
theorem dX7_gives_83 : decode cX7_gives 83 = .ok (.istore 7, 2) := dq_54 bk_cX7_gives_79 4 rfl rfl
theorem dX7_gives_85 : decode cX7_gives 85 = .ok (.iload 7, 2) := dq_21 bk_cX7_gives_79 6 rfl rfl
theorem dX7_gives_87 : decode cX7_gives 87 = .ok (.ifCond .eq 34, 3) := dq_153 bk_cX7_gives_79 8 rfl (by decide)
theorem dX7_gives_90 : decode cX7_gives 90 = .ok (.iload 4, 2) := dq_21 bk_cX7_gives_79 11 rfl rfl
theorem dX7_gives_92 : decode cX7_gives 92 = .ok (.ifCond .ne 7, 3) := dq_154 bk_cX7_gives_79 13 rfl (by decide)
theorem dX7_gives_95 : decode cX7_gives 95 = .ok (.aload_n 0, 1) := dk_42 (blk_at bk_cX7_gives_79 16 rfl)
theorem dX7_gives_96 : decode cX7_gives 96 = .ok (.invokevirtual 333, 3) := dq_182 bk_cX7_gives_79 17 rfl rfl
theorem dX7_gives_99 : decode cX7_gives 99 = .ok (.aload 6, 2) := dq_25 bk_cX7_gives_79 20 rfl rfl
theorem dX7_gives_101 : decode cX7_gives 101 = .ok (.dup, 1) := dk_89 (blk_at bk_cX7_gives_79 22 rfl)
theorem dX7_gives_102 : decode cX7_gives 102 = .ok (.getfield 345, 3) := dq_180 bk_cX7_gives_79 23 rfl rfl
theorem dX7_gives_105 : decode cX7_gives 105 = .ok (.iload 7, 2) := dq_21 bk_cX7_gives_79 26 rfl rfl
theorem dX7_gives_107 : decode cX7_gives 107 = .ok (.ior, 1) := dk_128 (blk_at bk_cX7_gives_79 28 rfl)
theorem dX7_gives_108 : decode cX7_gives 108 = .ok (.putfield 345, 3) := dq_181 bk_cX7_gives_79 29 rfl rfl
theorem dX7_gives_111 : decode cX7_gives 111 = .ok (.iload 4, 2) := dq_21 bk_cX7_gives_79 32 rfl rfl
theorem dX7_gives_113 : decode cX7_gives 113 = .ok (.iload 7, 2) := dq_21 bk_cX7_gives_79 34 rfl rfl
theorem dX7_gives_115 : decode cX7_gives 115 = .ok (.invokestatic 255, 3) := dq_184 bk_cX7_gives_79 36 rfl rfl
theorem dX7_gives_118 : decode cX7_gives 118 = .ok (.iadd, 1) := dk_96 (blk_at bk_cX7_gives_79 39 rfl)
theorem bk_cX7_gives_119 : (cX7_gives.data.toList.drop 119).take 11 = [54, 4, 132, 5, 1, 167, 255, 170, 21, 4, 172] := by decide +kernel
theorem dX7_gives_119 : decode cX7_gives 119 = .ok (.istore 4, 2) := dq_54 bk_cX7_gives_119 0 rfl rfl
theorem dX7_gives_121 : decode cX7_gives 121 = .ok (.iinc 5 1, 3) := dq_132 bk_cX7_gives_119 2 rfl rfl (by decide)
theorem dX7_gives_124 : decode cX7_gives 124 = .ok (.goto (-86), 3) := dq_167 bk_cX7_gives_119 5 rfl (by decide)
theorem dX7_gives_127 : decode cX7_gives 127 = .ok (.iload 4, 2) := dq_21 bk_cX7_gives_119 8 rfl rfl
theorem dX7_gives_129 : decode cX7_gives 129 = .ok (.ireturn, 1) := dk_172 (blk_at bk_cX7_gives_119 10 rfl)
theorem bk_cX7_tick_0 : (cX7_tick.data.toList.drop 0).take 40 = [42, 182, 0, 121, 154, 0, 6, 16, 254, 172, 42, 180, 0, 20, 182, 1, 23, 153, 0, 5, 2, 172, 42, 182, 1, 77, 4, 42, 180, 0, 20, 180, 0, 103, 120, 60, 3, 61, 28, 42] := by decide +kernel
theorem dX7_tick_0 : decode cX7_tick 0 = .ok (.aload_n 0, 1) := dk_42 (blk_at bk_cX7_tick_0 0 rfl)
theorem dX7_tick_1 : decode cX7_tick 1 = .ok (.invokevirtual 121, 3) := dq_182 bk_cX7_tick_0 1 rfl rfl
theorem dX7_tick_4 : decode cX7_tick 4 = .ok (.ifCond .ne 6, 3) := dq_154 bk_cX7_tick_0 4 rfl (by decide)
theorem dX7_tick_7 : decode cX7_tick 7 = .ok (.bipush (-2), 2) := dq_16 bk_cX7_tick_0 7 rfl (by decide)
theorem dX7_tick_9 : decode cX7_tick 9 = .ok (.ireturn, 1) := dk_172 (blk_at bk_cX7_tick_0 9 rfl)
theorem dX7_tick_10 : decode cX7_tick 10 = .ok (.aload_n 0, 1) := dk_42 (blk_at bk_cX7_tick_0 10 rfl)
theorem dX7_tick_11 : decode cX7_tick 11 = .ok (.getfield 20, 3) := dq_180 bk_cX7_tick_0 11 rfl rfl
theorem dX7_tick_14 : decode cX7_tick 14 = .ok (.invokevirtual 279, 3) := dq_182 bk_cX7_tick_0 14 rfl rfl
theorem dX7_tick_17 : decode cX7_tick 17 = .ok (.ifCond .eq 5, 3) := dq_153 bk_cX7_tick_0 17 rfl (by decide)
theorem dX7_tick_20 : decode cX7_tick 20 = .ok (.iconst (-1), 1) := dk_2 (blk_at bk_cX7_tick_0 20 rfl)
theorem dX7_tick_21 : decode cX7_tick 21 = .ok (.ireturn, 1) := dk_172 (blk_at bk_cX7_tick_0 21 rfl)
theorem dX7_tick_22 : decode cX7_tick 22 = .ok (.aload_n 0, 1) := dk_42 (blk_at bk_cX7_tick_0 22 rfl)
theorem dX7_tick_23 : decode cX7_tick 23 = .ok (.invokevirtual 333, 3) := dq_182 bk_cX7_tick_0 23 rfl rfl
theorem dX7_tick_26 : decode cX7_tick 26 = .ok (.iconst 1, 1) := dk_4 (blk_at bk_cX7_tick_0 26 rfl)
theorem dX7_tick_27 : decode cX7_tick 27 = .ok (.aload_n 0, 1) := dk_42 (blk_at bk_cX7_tick_0 27 rfl)
theorem dX7_tick_28 : decode cX7_tick 28 = .ok (.getfield 20, 3) := dq_180 bk_cX7_tick_0 28 rfl rfl
theorem dX7_tick_31 : decode cX7_tick 31 = .ok (.getfield 103, 3) := dq_180 bk_cX7_tick_0 31 rfl rfl
theorem dX7_tick_34 : decode cX7_tick 34 = .ok (.ishl, 1) := dk_120 (blk_at bk_cX7_tick_0 34 rfl)
theorem dX7_tick_35 : decode cX7_tick 35 = .ok (.istore_n 1, 1) := dk_60 (blk_at bk_cX7_tick_0 35 rfl)
theorem dX7_tick_36 : decode cX7_tick 36 = .ok (.iconst 0, 1) := dk_3 (blk_at bk_cX7_tick_0 36 rfl)
theorem dX7_tick_37 : decode cX7_tick 37 = .ok (.istore_n 2, 1) := dk_61 (blk_at bk_cX7_tick_0 37 rfl)
theorem dX7_tick_38 : decode cX7_tick 38 = .ok (.iload_n 2, 1) := dk_28 (blk_at bk_cX7_tick_0 38 rfl)
theorem dX7_tick_39 : decode cX7_tick 39 = .ok (.aload_n 0, 1) := dk_42 (blk_at bk_cX7_tick_0 39 rfl)
theorem bk_cX7_tick_40 : (cX7_tick.data.toList.drop 40).take 40 = [180, 0, 20, 180, 0, 97, 162, 0, 40, 42, 180, 0, 20, 180, 0, 135, 28, 50, 89, 180, 1, 92, 42, 180, 0, 20, 180, 0, 135, 28, 50, 182, 1, 83, 27, 126, 128, 181, 1, 92] := by decide +kernel
theorem dX7_tick_40 : decode cX7_tick 40 = .ok (.getfield 20, 3) := dq_180 bk_cX7_tick_40 0 rfl rfl
theorem dX7_tick_43 : decode cX7_tick 43 = .ok (.getfield 97, 3) := dq_180 bk_cX7_tick_40 3 rfl rfl
theorem dX7_tick_46 : decode cX7_tick 46 = .ok (.if_icmp .ge 40, 3) := dq_162 bk_cX7_tick_40 6 rfl (by decide)
theorem dX7_tick_49 : decode cX7_tick 49 = .ok (.aload_n 0, 1) := dk_42 (blk_at bk_cX7_tick_40 9 rfl)
theorem dX7_tick_50 : decode cX7_tick 50 = .ok (.getfield 20, 3) := dq_180 bk_cX7_tick_40 10 rfl rfl
theorem dX7_tick_53 : decode cX7_tick 53 = .ok (.getfield 135, 3) := dq_180 bk_cX7_tick_40 13 rfl rfl
theorem dX7_tick_56 : decode cX7_tick 56 = .ok (.iload_n 2, 1) := dk_28 (blk_at bk_cX7_tick_40 16 rfl)
theorem dX7_tick_57 : decode cX7_tick 57 = .ok (.aaload, 1) := dk_50 (blk_at bk_cX7_tick_40 17 rfl)
theorem dX7_tick_58 : decode cX7_tick 58 = .ok (.dup, 1) := dk_89 (blk_at bk_cX7_tick_40 18 rfl)
theorem dX7_tick_59 : decode cX7_tick 59 = .ok (.getfield 348, 3) := dq_180 bk_cX7_tick_40 19 rfl rfl
theorem dX7_tick_62 : decode cX7_tick 62 = .ok (.aload_n 0, 1) := dk_42 (blk_at bk_cX7_tick_40 22 rfl)
theorem dX7_tick_63 : decode cX7_tick 63 = .ok (.getfield 20, 3) := dq_180 bk_cX7_tick_40 23 rfl rfl
theorem dX7_tick_66 : decode cX7_tick 66 = .ok (.getfield 135, 3) := dq_180 bk_cX7_tick_40 26 rfl rfl
theorem dX7_tick_69 : decode cX7_tick 69 = .ok (.iload_n 2, 1) := dk_28 (blk_at bk_cX7_tick_40 29 rfl)
theorem dX7_tick_70 : decode cX7_tick 70 = .ok (.aaload, 1) := dk_50 (blk_at bk_cX7_tick_40 30 rfl)
theorem dX7_tick_71 : decode cX7_tick 71 = .ok (.invokevirtual 339, 3) := dq_182 bk_cX7_tick_40 31 rfl rfl
theorem dX7_tick_74 : decode cX7_tick 74 = .ok (.iload_n 1, 1) := dk_27 (blk_at bk_cX7_tick_40 34 rfl)
theorem dX7_tick_75 : decode cX7_tick 75 = .ok (.iand, 1) := dk_126 (blk_at bk_cX7_tick_40 35 rfl)
theorem dX7_tick_76 : decode cX7_tick 76 = .ok (.ior, 1) := dk_128 (blk_at bk_cX7_tick_40 36 rfl)
theorem dX7_tick_77 : decode cX7_tick 77 = .ok (.putfield 348, 3) := dq_181 bk_cX7_tick_40 37 rfl rfl
theorem bk_cX7_tick_80 : (cX7_tick.data.toList.drop 80).take 27 = [132, 2, 1, 167, 255, 211, 42, 180, 0, 20, 89, 180, 0, 103, 4, 96, 181, 0, 103, 42, 180, 0, 20, 180, 0, 103, 172] := by decide +kernel
theorem dX7_tick_80 : decode cX7_tick 80 = .ok (.iinc 2 1, 3) := dq_132 bk_cX7_tick_80 0 rfl rfl (by decide)
theorem dX7_tick_83 : decode cX7_tick 83 = .ok (.goto (-45), 3) := dq_167 bk_cX7_tick_80 3 rfl (by decide)
theorem dX7_tick_86 : decode cX7_tick 86 = .ok (.aload_n 0, 1) := dk_42 (blk_at bk_cX7_tick_80 6 rfl)
theorem dX7_tick_87 : decode cX7_tick 87 = .ok (.getfield 20, 3) := dq_180 bk_cX7_tick_80 7 rfl rfl
theorem dX7_tick_90 : decode cX7_tick 90 = .ok (.dup, 1) := dk_89 (blk_at bk_cX7_tick_80 10 rfl)
theorem dX7_tick_91 : decode cX7_tick 91 = .ok (.getfield 103, 3) := dq_180 bk_cX7_tick_80 11 rfl rfl
theorem dX7_tick_94 : decode cX7_tick 94 = .ok (.iconst 1, 1) := dk_4 (blk_at bk_cX7_tick_80 14 rfl)
theorem dX7_tick_95 : decode cX7_tick 95 = .ok (.iadd, 1) := dk_96 (blk_at bk_cX7_tick_80 15 rfl)
theorem dX7_tick_96 : decode cX7_tick 96 = .ok (.putfield 103, 3) := dq_181 bk_cX7_tick_80 16 rfl rfl
theorem dX7_tick_99 : decode cX7_tick 99 = .ok (.aload_n 0, 1) := dk_42 (blk_at bk_cX7_tick_80 19 rfl)
theorem dX7_tick_100 : decode cX7_tick 100 = .ok (.getfield 20, 3) := dq_180 bk_cX7_tick_80 20 rfl rfl
theorem dX7_tick_103 : decode cX7_tick 103 = .ok (.getfield 103, 3) := dq_180 bk_cX7_tick_80 23 rfl rfl
theorem dX7_tick_106 : decode cX7_tick 106 = .ok (.ireturn, 1) := dk_172 (blk_at bk_cX7_tick_80 26 rfl)
theorem bk_cX7_pool_0 : (cX7_pool.data.toList.drop 0).take 40 = [42, 182, 0, 121, 154, 0, 6, 16, 254, 172, 42, 180, 0, 54, 42, 180, 0, 20, 2, 182, 1, 58, 42, 180, 0, 54, 180, 1, 62, 158, 0, 18, 42, 182, 1, 77, 42, 180, 0, 54] := by decide +kernel
theorem dX7_pool_0 : decode cX7_pool 0 = .ok (.aload_n 0, 1) := dk_42 (blk_at bk_cX7_pool_0 0 rfl)
theorem dX7_pool_1 : decode cX7_pool 1 = .ok (.invokevirtual 121, 3) := dq_182 bk_cX7_pool_0 1 rfl rfl
theorem dX7_pool_4 : decode cX7_pool 4 = .ok (.ifCond .ne 6, 3) := dq_154 bk_cX7_pool_0 4 rfl (by decide)
theorem dX7_pool_7 : decode cX7_pool 7 = .ok (.bipush (-2), 2) := dq_16 bk_cX7_pool_0 7 rfl (by decide)
theorem dX7_pool_9 : decode cX7_pool 9 = .ok (.ireturn, 1) := dk_172 (blk_at bk_cX7_pool_0 9 rfl)
theorem dX7_pool_10 : decode cX7_pool 10 = .ok (.aload_n 0, 1) := dk_42 (blk_at bk_cX7_pool_0 10 rfl)
theorem dX7_pool_11 : decode cX7_pool 11 = .ok (.getfield 54, 3) := dq_180 bk_cX7_pool_0 11 rfl rfl
theorem dX7_pool_14 : decode cX7_pool 14 = .ok (.aload_n 0, 1) := dk_42 (blk_at bk_cX7_pool_0 14 rfl)
theorem dX7_pool_15 : decode cX7_pool 15 = .ok (.getfield 20, 3) := dq_180 bk_cX7_pool_0 15 rfl rfl
theorem dX7_pool_18 : decode cX7_pool 18 = .ok (.iconst (-1), 1) := dk_2 (blk_at bk_cX7_pool_0 18 rfl)
theorem dX7_pool_19 : decode cX7_pool 19 = .ok (.invokevirtual 314, 3) := dq_182 bk_cX7_pool_0 19 rfl rfl
theorem dX7_pool_22 : decode cX7_pool 22 = .ok (.aload_n 0, 1) := dk_42 (blk_at bk_cX7_pool_0 22 rfl)
theorem dX7_pool_23 : decode cX7_pool 23 = .ok (.getfield 54, 3) := dq_180 bk_cX7_pool_0 23 rfl rfl
theorem dX7_pool_26 : decode cX7_pool 26 = .ok (.getfield 318, 3) := dq_180 bk_cX7_pool_0 26 rfl rfl
theorem dX7_pool_29 : decode cX7_pool 29 = .ok (.ifCond .le 18, 3) := dq_158 bk_cX7_pool_0 29 rfl (by decide)
theorem dX7_pool_32 : decode cX7_pool 32 = .ok (.aload_n 0, 1) := dk_42 (blk_at bk_cX7_pool_0 32 rfl)
theorem dX7_pool_33 : decode cX7_pool 33 = .ok (.invokevirtual 333, 3) := dq_182 bk_cX7_pool_0 33 rfl rfl
theorem dX7_pool_36 : decode cX7_pool 36 = .ok (.aload_n 0, 1) := dk_42 (blk_at bk_cX7_pool_0 36 rfl)
theorem dX7_pool_37 : decode cX7_pool 37 = .ok (.getfield 54, 3) := dq_180 bk_cX7_pool_0 37 rfl rfl
theorem bk_cX7_pool_40 : (cX7_pool.data.toList.drop 40).take 15 = [42, 180, 0, 20, 182, 1, 95, 42, 180, 0, 54, 180, 1, 62, 172] := by decide +kernel
theorem dX7_pool_40 : decode cX7_pool 40 = .ok (.aload_n 0, 1) := dk_42 (blk_at bk_cX7_pool_40 0 rfl)
theorem dX7_pool_41 : decode cX7_pool 41 = .ok (.getfield 20, 3) := dq_180 bk_cX7_pool_40 1 rfl rfl
theorem dX7_pool_44 : decode cX7_pool 44 = .ok (.invokevirtual 351, 3) := dq_182 bk_cX7_pool_40 4 rfl rfl
theorem dX7_pool_47 : decode cX7_pool 47 = .ok (.aload_n 0, 1) := dk_42 (blk_at bk_cX7_pool_40 7 rfl)
theorem dX7_pool_48 : decode cX7_pool 48 = .ok (.getfield 54, 3) := dq_180 bk_cX7_pool_40 8 rfl rfl
theorem dX7_pool_51 : decode cX7_pool 51 = .ok (.getfield 318, 3) := dq_180 bk_cX7_pool_40 11 rfl rfl
theorem dX7_pool_54 : decode cX7_pool 54 = .ok (.ireturn, 1) := dk_172 (blk_at bk_cX7_pool_40 14 rfl)
theorem bk_cX7_retime_0 : (cX7_retime.data.toList.drop 0).take 39 = [42, 27, 182, 0, 132, 153, 0, 11, 42, 28, 182, 0, 195, 154, 0, 6, 16, 254, 172, 42, 27, 28, 182, 1, 71, 154, 0, 6, 16, 250, 172, 42, 182, 1, 77, 42, 180, 0, 20] := by decide +kernel
theorem dX7_retime_0 : decode cX7_retime 0 = .ok (.aload_n 0, 1) := dk_42 (blk_at bk_cX7_retime_0 0 rfl)
theorem dX7_retime_1 : decode cX7_retime 1 = .ok (.iload_n 1, 1) := dk_27 (blk_at bk_cX7_retime_0 1 rfl)
theorem dX7_retime_2 : decode cX7_retime 2 = .ok (.invokevirtual 132, 3) := dq_182 bk_cX7_retime_0 2 rfl rfl
theorem dX7_retime_5 : decode cX7_retime 5 = .ok (.ifCond .eq 11, 3) := dq_153 bk_cX7_retime_0 5 rfl (by decide)
theorem dX7_retime_8 : decode cX7_retime 8 = .ok (.aload_n 0, 1) := dk_42 (blk_at bk_cX7_retime_0 8 rfl)
theorem dX7_retime_9 : decode cX7_retime 9 = .ok (.iload_n 2, 1) := dk_28 (blk_at bk_cX7_retime_0 9 rfl)
theorem dX7_retime_10 : decode cX7_retime 10 = .ok (.invokevirtual 195, 3) := dq_182 bk_cX7_retime_0 10 rfl rfl
theorem dX7_retime_13 : decode cX7_retime 13 = .ok (.ifCond .ne 6, 3) := dq_154 bk_cX7_retime_0 13 rfl (by decide)
theorem dX7_retime_16 : decode cX7_retime 16 = .ok (.bipush (-2), 2) := dq_16 bk_cX7_retime_0 16 rfl (by decide)
theorem dX7_retime_18 : decode cX7_retime 18 = .ok (.ireturn, 1) := dk_172 (blk_at bk_cX7_retime_0 18 rfl)
theorem dX7_retime_19 : decode cX7_retime 19 = .ok (.aload_n 0, 1) := dk_42 (blk_at bk_cX7_retime_0 19 rfl)
theorem dX7_retime_20 : decode cX7_retime 20 = .ok (.iload_n 1, 1) := dk_27 (blk_at bk_cX7_retime_0 20 rfl)
theorem dX7_retime_21 : decode cX7_retime 21 = .ok (.iload_n 2, 1) := dk_28 (blk_at bk_cX7_retime_0 21 rfl)
theorem dX7_retime_22 : decode cX7_retime 22 = .ok (.invokevirtual 327, 3) := dq_182 bk_cX7_retime_0 22 rfl rfl
theorem dX7_retime_25 : decode cX7_retime 25 = .ok (.ifCond .ne 6, 3) := dq_154 bk_cX7_retime_0 25 rfl (by decide)
theorem dX7_retime_28 : decode cX7_retime 28 = .ok (.bipush (-6), 2) := dq_16 bk_cX7_retime_0 28 rfl (by decide)
theorem dX7_retime_30 : decode cX7_retime 30 = .ok (.ireturn, 1) := dk_172 (blk_at bk_cX7_retime_0 30 rfl)
theorem dX7_retime_31 : decode cX7_retime 31 = .ok (.aload_n 0, 1) := dk_42 (blk_at bk_cX7_retime_0 31 rfl)
theorem dX7_retime_32 : decode cX7_retime 32 = .ok (.invokevirtual 333, 3) := dq_182 bk_cX7_retime_0 32 rfl rfl
theorem dX7_retime_35 : decode cX7_retime 35 = .ok (.aload_n 0, 1) := dk_42 (blk_at bk_cX7_retime_0 35 rfl)
theorem dX7_retime_36 : decode cX7_retime 36 = .ok (.getfield 20, 3) := dq_180 bk_cX7_retime_0 36 rfl rfl
theorem bk_cX7_retime_39 : (cX7_retime.data.toList.drop 39).take 24 = [180, 0, 135, 27, 50, 180, 0, 147, 62, 42, 180, 0, 20, 180, 0, 135, 27, 50, 28, 181, 0, 147, 29, 172] := by decide +kernel
theorem dX7_retime_39 : decode cX7_retime 39 = .ok (.getfield 135, 3) := dq_180 bk_cX7_retime_39 0 rfl rfl
theorem dX7_retime_42 : decode cX7_retime 42 = .ok (.iload_n 1, 1) := dk_27 (blk_at bk_cX7_retime_39 3 rfl)
theorem dX7_retime_43 : decode cX7_retime 43 = .ok (.aaload, 1) := dk_50 (blk_at bk_cX7_retime_39 4 rfl)
theorem dX7_retime_44 : decode cX7_retime 44 = .ok (.getfield 147, 3) := dq_180 bk_cX7_retime_39 5 rfl rfl
theorem dX7_retime_47 : decode cX7_retime 47 = .ok (.istore_n 3, 1) := dk_62 (blk_at bk_cX7_retime_39 8 rfl)
theorem dX7_retime_48 : decode cX7_retime 48 = .ok (.aload_n 0, 1) := dk_42 (blk_at bk_cX7_retime_39 9 rfl)
theorem dX7_retime_49 : decode cX7_retime 49 = .ok (.getfield 20, 3) := dq_180 bk_cX7_retime_39 10 rfl rfl
theorem dX7_retime_52 : decode cX7_retime 52 = .ok (.getfield 135, 3) := dq_180 bk_cX7_retime_39 13 rfl rfl
theorem dX7_retime_55 : decode cX7_retime 55 = .ok (.iload_n 1, 1) := dk_27 (blk_at bk_cX7_retime_39 16 rfl)
theorem dX7_retime_56 : decode cX7_retime 56 = .ok (.aaload, 1) := dk_50 (blk_at bk_cX7_retime_39 17 rfl)
theorem dX7_retime_57 : decode cX7_retime 57 = .ok (.iload_n 2, 1) := dk_28 (blk_at bk_cX7_retime_39 18 rfl)
theorem dX7_retime_58 : decode cX7_retime 58 = .ok (.putfield 147, 3) := dq_181 bk_cX7_retime_39 19 rfl rfl
theorem dX7_retime_61 : decode cX7_retime 61 = .ok (.iload_n 3, 1) := dk_29 (blk_at bk_cX7_retime_39 22 rfl)
theorem dX7_retime_62 : decode cX7_retime 62 = .ok (.ireturn, 1) := dk_172 (blk_at bk_cX7_retime_39 23 rfl)
theorem bk_cX7_swap_0 : (cX7_swap.data.toList.drop 0).take 40 = [42, 27, 182, 0, 132, 153, 0, 11, 42, 28, 182, 0, 132, 154, 0, 6, 16, 254, 172, 42, 27, 28, 182, 1, 74, 62, 29, 153, 0, 5, 29, 172, 42, 182, 1, 77, 42, 180, 0, 20] := by decide +kernel
theorem dX7_swap_0 : decode cX7_swap 0 = .ok (.aload_n 0, 1) := dk_42 (blk_at bk_cX7_swap_0 0 rfl)
theorem dX7_swap_1 : decode cX7_swap 1 = .ok (.iload_n 1, 1) := dk_27 (blk_at bk_cX7_swap_0 1 rfl)
theorem dX7_swap_2 : decode cX7_swap 2 = .ok (.invokevirtual 132, 3) := dq_182 bk_cX7_swap_0 2 rfl rfl
theorem dX7_swap_5 : decode cX7_swap 5 = .ok (.ifCond .eq 11, 3) := dq_153 bk_cX7_swap_0 5 rfl (by decide)
theorem dX7_swap_8 : decode cX7_swap 8 = .ok (.aload_n 0, 1) := dk_42 (blk_at bk_cX7_swap_0 8 rfl)
theorem dX7_swap_9 : decode cX7_swap 9 = .ok (.iload_n 2, 1) := dk_28 (blk_at bk_cX7_swap_0 9 rfl)
theorem dX7_swap_10 : decode cX7_swap 10 = .ok (.invokevirtual 132, 3) := dq_182 bk_cX7_swap_0 10 rfl rfl
theorem dX7_swap_13 : decode cX7_swap 13 = .ok (.ifCond .ne 6, 3) := dq_154 bk_cX7_swap_0 13 rfl (by decide)
theorem dX7_swap_16 : decode cX7_swap 16 = .ok (.bipush (-2), 2) := dq_16 bk_cX7_swap_0 16 rfl (by decide)
theorem dX7_swap_18 : decode cX7_swap 18 = .ok (.ireturn, 1) := dk_172 (blk_at bk_cX7_swap_0 18 rfl)
theorem dX7_swap_19 : decode cX7_swap 19 = .ok (.aload_n 0, 1) := dk_42 (blk_at bk_cX7_swap_0 19 rfl)
theorem dX7_swap_20 : decode cX7_swap 20 = .ok (.iload_n 1, 1) := dk_27 (blk_at bk_cX7_swap_0 20 rfl)
theorem dX7_swap_21 : decode cX7_swap 21 = .ok (.iload_n 2, 1) := dk_28 (blk_at bk_cX7_swap_0 21 rfl)
theorem dX7_swap_22 : decode cX7_swap 22 = .ok (.invokevirtual 330, 3) := dq_182 bk_cX7_swap_0 22 rfl rfl
theorem dX7_swap_25 : decode cX7_swap 25 = .ok (.istore_n 3, 1) := dk_62 (blk_at bk_cX7_swap_0 25 rfl)
theorem dX7_swap_26 : decode cX7_swap 26 = .ok (.iload_n 3, 1) := dk_29 (blk_at bk_cX7_swap_0 26 rfl)
theorem dX7_swap_27 : decode cX7_swap 27 = .ok (.ifCond .eq 5, 3) := dq_153 bk_cX7_swap_0 27 rfl (by decide)
theorem dX7_swap_30 : decode cX7_swap 30 = .ok (.iload_n 3, 1) := dk_29 (blk_at bk_cX7_swap_0 30 rfl)
theorem dX7_swap_31 : decode cX7_swap 31 = .ok (.ireturn, 1) := dk_172 (blk_at bk_cX7_swap_0 31 rfl)
theorem dX7_swap_32 : decode cX7_swap 32 = .ok (.aload_n 0, 1) := dk_42 (blk_at bk_cX7_swap_0 32 rfl)
theorem dX7_swap_33 : decode cX7_swap 33 = .ok (.invokevirtual 333, 3) := dq_182 bk_cX7_swap_0 33 rfl rfl
theorem dX7_swap_36 : decode cX7_swap 36 = .ok (.aload_n 0, 1) := dk_42 (blk_at bk_cX7_swap_0 36 rfl)
theorem dX7_swap_37 : decode cX7_swap 37 = .ok (.getfield 20, 3) := dq_180 bk_cX7_swap_0 37 rfl rfl
theorem bk_cX7_swap_40 : (cX7_swap.data.toList.drop 40).take 19 = [180, 0, 135, 27, 50, 42, 180, 0, 20, 180, 0, 135, 28, 50, 182, 1, 98, 4, 172] := by decide +kernel
theorem dX7_swap_40 : decode cX7_swap 40 = .ok (.getfield 135, 3) := dq_180 bk_cX7_swap_40 0 rfl rfl
theorem dX7_swap_43 : decode cX7_swap 43 = .ok (.iload_n 1, 1) := dk_27 (blk_at bk_cX7_swap_40 3 rfl)
theorem dX7_swap_44 : decode cX7_swap 44 = .ok (.aaload, 1) := dk_50 (blk_at bk_cX7_swap_40 4 rfl)
theorem dX7_swap_45 : decode cX7_swap 45 = .ok (.aload_n 0, 1) := dk_42 (blk_at bk_cX7_swap_40 5 rfl)
theorem dX7_swap_46 : decode cX7_swap 46 = .ok (.getfield 20, 3) := dq_180 bk_cX7_swap_40 6 rfl rfl
theorem dX7_swap_49 : decode cX7_swap 49 = .ok (.getfield 135, 3) := dq_180 bk_cX7_swap_40 9 rfl rfl
theorem dX7_swap_52 : decode cX7_swap 52 = .ok (.iload_n 2, 1) := dk_28 (blk_at bk_cX7_swap_40 12 rfl)
theorem dX7_swap_53 : decode cX7_swap 53 = .ok (.aaload, 1) := dk_50 (blk_at bk_cX7_swap_40 13 rfl)
theorem dX7_swap_54 : decode cX7_swap 54 = .ok (.invokevirtual 354, 3) := dq_182 bk_cX7_swap_40 14 rfl rfl
theorem dX7_swap_57 : decode cX7_swap 57 = .ok (.iconst 1, 1) := dk_4 (blk_at bk_cX7_swap_40 17 rfl)
theorem dX7_swap_58 : decode cX7_swap 58 = .ok (.ireturn, 1) := dk_172 (blk_at bk_cX7_swap_40 18 rfl)
theorem bk_cX7_hand_0 : (cX7_hand.data.toList.drop 0).take 40 = [42, 27, 182, 0, 132, 153, 0, 11, 42, 28, 182, 0, 109, 154, 0, 6, 16, 254, 172, 42, 180, 0, 20, 180, 0, 135, 27, 50, 78, 45, 180, 0, 153, 153, 0, 6, 16, 251, 172, 45] := by decide +kernel
theorem dX7_hand_0 : decode cX7_hand 0 = .ok (.aload_n 0, 1) := dk_42 (blk_at bk_cX7_hand_0 0 rfl)
theorem dX7_hand_1 : decode cX7_hand 1 = .ok (.iload_n 1, 1) := dk_27 (blk_at bk_cX7_hand_0 1 rfl)
theorem dX7_hand_2 : decode cX7_hand 2 = .ok (.invokevirtual 132, 3) := dq_182 bk_cX7_hand_0 2 rfl rfl
theorem dX7_hand_5 : decode cX7_hand 5 = .ok (.ifCond .eq 11, 3) := dq_153 bk_cX7_hand_0 5 rfl (by decide)
theorem dX7_hand_8 : decode cX7_hand 8 = .ok (.aload_n 0, 1) := dk_42 (blk_at bk_cX7_hand_0 8 rfl)
theorem dX7_hand_9 : decode cX7_hand 9 = .ok (.iload_n 2, 1) := dk_28 (blk_at bk_cX7_hand_0 9 rfl)
theorem dX7_hand_10 : decode cX7_hand 10 = .ok (.invokevirtual 109, 3) := dq_182 bk_cX7_hand_0 10 rfl rfl
theorem dX7_hand_13 : decode cX7_hand 13 = .ok (.ifCond .ne 6, 3) := dq_154 bk_cX7_hand_0 13 rfl (by decide)
theorem dX7_hand_16 : decode cX7_hand 16 = .ok (.bipush (-2), 2) := dq_16 bk_cX7_hand_0 16 rfl (by decide)
theorem dX7_hand_18 : decode cX7_hand 18 = .ok (.ireturn, 1) := dk_172 (blk_at bk_cX7_hand_0 18 rfl)
theorem dX7_hand_19 : decode cX7_hand 19 = .ok (.aload_n 0, 1) := dk_42 (blk_at bk_cX7_hand_0 19 rfl)
theorem dX7_hand_20 : decode cX7_hand 20 = .ok (.getfield 20, 3) := dq_180 bk_cX7_hand_0 20 rfl rfl
theorem dX7_hand_23 : decode cX7_hand 23 = .ok (.getfield 135, 3) := dq_180 bk_cX7_hand_0 23 rfl rfl
theorem dX7_hand_26 : decode cX7_hand 26 = .ok (.iload_n 1, 1) := dk_27 (blk_at bk_cX7_hand_0 26 rfl)
theorem dX7_hand_27 : decode cX7_hand 27 = .ok (.aaload, 1) := dk_50 (blk_at bk_cX7_hand_0 27 rfl)
theorem dX7_hand_28 : decode cX7_hand 28 = .ok (.astore_n 3, 1) := dk_78 (blk_at bk_cX7_hand_0 28 rfl)
theorem dX7_hand_29 : decode cX7_hand 29 = .ok (.aload_n 3, 1) := dk_45 (blk_at bk_cX7_hand_0 29 rfl)
theorem dX7_hand_30 : decode cX7_hand 30 = .ok (.getfield 153, 3) := dq_180 bk_cX7_hand_0 30 rfl rfl
theorem dX7_hand_33 : decode cX7_hand 33 = .ok (.ifCond .eq 6, 3) := dq_153 bk_cX7_hand_0 33 rfl (by decide)
theorem dX7_hand_36 : decode cX7_hand 36 = .ok (.bipush (-5), 2) := dq_16 bk_cX7_hand_0 36 rfl (by decide)
theorem dX7_hand_38 : decode cX7_hand 38 = .ok (.ireturn, 1) := dk_172 (blk_at bk_cX7_hand_0 38 rfl)
theorem dX7_hand_39 : decode cX7_hand 39 = .ok (.aload_n 3, 1) := dk_45 (blk_at bk_cX7_hand_0 39 rfl)
theorem bk_cX7_hand_40 : (cX7_hand.data.toList.drop 40).take 28 = [180, 0, 139, 28, 160, 0, 6, 16, 250, 172, 42, 182, 1, 77, 45, 180, 0, 139, 54, 4, 45, 28, 181, 0, 139, 21, 4, 172] := by decide +kernel
theorem dX7_hand_40 : decode cX7_hand 40 = .ok (.getfield 139, 3) := dq_180 bk_cX7_hand_40 0 rfl rfl
theorem dX7_hand_43 : decode cX7_hand 43 = .ok (.iload_n 2, 1) := dk_28 (blk_at bk_cX7_hand_40 3 rfl)
theorem dX7_hand_44 : decode cX7_hand 44 = .ok (.if_icmp .ne 6, 3) := dq_160 bk_cX7_hand_40 4 rfl (by decide)
theorem dX7_hand_47 : decode cX7_hand 47 = .ok (.bipush (-6), 2) := dq_16 bk_cX7_hand_40 7 rfl (by decide)
theorem dX7_hand_49 : decode cX7_hand 49 = .ok (.ireturn, 1) := dk_172 (blk_at bk_cX7_hand_40 9 rfl)
theorem dX7_hand_50 : decode cX7_hand 50 = .ok (.aload_n 0, 1) := dk_42 (blk_at bk_cX7_hand_40 10 rfl)
theorem dX7_hand_51 : decode cX7_hand 51 = .ok (.invokevirtual 333, 3) := dq_182 bk_cX7_hand_40 11 rfl rfl
theorem dX7_hand_54 : decode cX7_hand 54 = .ok (.aload_n 3, 1) := dk_45 (blk_at bk_cX7_hand_40 14 rfl)
theorem dX7_hand_55 : decode cX7_hand 55 = .ok (.getfield 139, 3) := dq_180 bk_cX7_hand_40 15 rfl rfl
theorem dX7_hand_58 : decode cX7_hand 58 = .ok (.istore 4, 2) := dq_54 bk_cX7_hand_40 18 rfl rfl
theorem dX7_hand_60 : decode cX7_hand 60 = .ok (.aload_n 3, 1) := dk_45 (blk_at bk_cX7_hand_40 20 rfl)
theorem dX7_hand_61 : decode cX7_hand 61 = .ok (.iload_n 2, 1) := dk_28 (blk_at bk_cX7_hand_40 21 rfl)
theorem dX7_hand_62 : decode cX7_hand 62 = .ok (.putfield 139, 3) := dq_181 bk_cX7_hand_40 22 rfl rfl
theorem dX7_hand_65 : decode cX7_hand 65 = .ok (.iload 4, 2) := dq_21 bk_cX7_hand_40 25 rfl rfl
theorem dX7_hand_67 : decode cX7_hand 67 = .ok (.ireturn, 1) := dk_172 (blk_at bk_cX7_hand_40 27 rfl)
theorem bk_cX7_limit_0 : (cX7_limit.data.toList.drop 0).take 40 = [42, 27, 182, 0, 195, 153, 0, 22, 28, 3, 16, 9, 184, 0, 113, 153, 0, 12, 29, 3, 28, 184, 0, 113, 154, 0, 6, 16, 254, 172, 42, 180, 0, 20, 27, 28, 29, 182, 1, 102] := by decide +kernel
theorem dX7_limit_0 : decode cX7_limit 0 = .ok (.aload_n 0, 1) := dk_42 (blk_at bk_cX7_limit_0 0 rfl)
theorem dX7_limit_1 : decode cX7_limit 1 = .ok (.iload_n 1, 1) := dk_27 (blk_at bk_cX7_limit_0 1 rfl)
theorem dX7_limit_2 : decode cX7_limit 2 = .ok (.invokevirtual 195, 3) := dq_182 bk_cX7_limit_0 2 rfl rfl
theorem dX7_limit_5 : decode cX7_limit 5 = .ok (.ifCond .eq 22, 3) := dq_153 bk_cX7_limit_0 5 rfl (by decide)
theorem dX7_limit_8 : decode cX7_limit 8 = .ok (.iload_n 2, 1) := dk_28 (blk_at bk_cX7_limit_0 8 rfl)
theorem dX7_limit_9 : decode cX7_limit 9 = .ok (.iconst 0, 1) := dk_3 (blk_at bk_cX7_limit_0 9 rfl)
theorem dX7_limit_10 : decode cX7_limit 10 = .ok (.bipush 9, 2) := dq_16 bk_cX7_limit_0 10 rfl (by decide)
theorem dX7_limit_12 : decode cX7_limit 12 = .ok (.invokestatic 113, 3) := dq_184 bk_cX7_limit_0 12 rfl rfl
theorem dX7_limit_15 : decode cX7_limit 15 = .ok (.ifCond .eq 12, 3) := dq_153 bk_cX7_limit_0 15 rfl (by decide)
theorem dX7_limit_18 : decode cX7_limit 18 = .ok (.iload_n 3, 1) := dk_29 (blk_at bk_cX7_limit_0 18 rfl)
theorem dX7_limit_19 : decode cX7_limit 19 = .ok (.iconst 0, 1) := dk_3 (blk_at bk_cX7_limit_0 19 rfl)
theorem dX7_limit_20 : decode cX7_limit 20 = .ok (.iload_n 2, 1) := dk_28 (blk_at bk_cX7_limit_0 20 rfl)
theorem dX7_limit_21 : decode cX7_limit 21 = .ok (.invokestatic 113, 3) := dq_184 bk_cX7_limit_0 21 rfl rfl
theorem dX7_limit_24 : decode cX7_limit 24 = .ok (.ifCond .ne 6, 3) := dq_154 bk_cX7_limit_0 24 rfl (by decide)
theorem dX7_limit_27 : decode cX7_limit 27 = .ok (.bipush (-2), 2) := dq_16 bk_cX7_limit_0 27 rfl (by decide)
theorem dX7_limit_29 : decode cX7_limit 29 = .ok (.ireturn, 1) := dk_172 (blk_at bk_cX7_limit_0 29 rfl)
theorem dX7_limit_30 : decode cX7_limit 30 = .ok (.aload_n 0, 1) := dk_42 (blk_at bk_cX7_limit_0 30 rfl)
theorem dX7_limit_31 : decode cX7_limit 31 = .ok (.getfield 20, 3) := dq_180 bk_cX7_limit_0 31 rfl rfl
theorem dX7_limit_34 : decode cX7_limit 34 = .ok (.iload_n 1, 1) := dk_27 (blk_at bk_cX7_limit_0 34 rfl)
theorem dX7_limit_35 : decode cX7_limit 35 = .ok (.iload_n 2, 1) := dk_28 (blk_at bk_cX7_limit_0 35 rfl)
theorem dX7_limit_36 : decode cX7_limit 36 = .ok (.iload_n 3, 1) := dk_29 (blk_at bk_cX7_limit_0 36 rfl)
theorem dX7_limit_37 : decode cX7_limit 37 = .ok (.invokevirtual 358, 3) := dq_182 bk_cX7_limit_0 37 rfl rfl
theorem bk_cX7_limit_40 : (cX7_limit.data.toList.drop 40).take 40 = [153, 0, 6, 16, 250, 172, 42, 180, 0, 20, 180, 0, 198, 27, 46, 54, 4, 42, 180, 0, 20, 180, 0, 202, 27, 46, 54, 5, 21, 4, 28, 160, 0, 9, 21, 5, 29, 159, 0, 27] := by decide +kernel
theorem dX7_limit_40 : decode cX7_limit 40 = .ok (.ifCond .eq 6, 3) := dq_153 bk_cX7_limit_40 0 rfl (by decide)
theorem dX7_limit_43 : decode cX7_limit 43 = .ok (.bipush (-6), 2) := dq_16 bk_cX7_limit_40 3 rfl (by decide)
theorem dX7_limit_45 : decode cX7_limit 45 = .ok (.ireturn, 1) := dk_172 (blk_at bk_cX7_limit_40 5 rfl)
theorem dX7_limit_46 : decode cX7_limit 46 = .ok (.aload_n 0, 1) := dk_42 (blk_at bk_cX7_limit_40 6 rfl)
theorem dX7_limit_47 : decode cX7_limit 47 = .ok (.getfield 20, 3) := dq_180 bk_cX7_limit_40 7 rfl rfl
theorem dX7_limit_50 : decode cX7_limit 50 = .ok (.getfield 198, 3) := dq_180 bk_cX7_limit_40 10 rfl rfl
theorem dX7_limit_53 : decode cX7_limit 53 = .ok (.iload_n 1, 1) := dk_27 (blk_at bk_cX7_limit_40 13 rfl)
theorem dX7_limit_54 : decode cX7_limit 54 = .ok (.iaload, 1) := dk_46 (blk_at bk_cX7_limit_40 14 rfl)
theorem dX7_limit_55 : decode cX7_limit 55 = .ok (.istore 4, 2) := dq_54 bk_cX7_limit_40 15 rfl rfl
theorem dX7_limit_57 : decode cX7_limit 57 = .ok (.aload_n 0, 1) := dk_42 (blk_at bk_cX7_limit_40 17 rfl)
theorem dX7_limit_58 : decode cX7_limit 58 = .ok (.getfield 20, 3) := dq_180 bk_cX7_limit_40 18 rfl rfl
theorem dX7_limit_61 : decode cX7_limit 61 = .ok (.getfield 202, 3) := dq_180 bk_cX7_limit_40 21 rfl rfl
theorem dX7_limit_64 : decode cX7_limit 64 = .ok (.iload_n 1, 1) := dk_27 (blk_at bk_cX7_limit_40 24 rfl)
theorem dX7_limit_65 : decode cX7_limit 65 = .ok (.iaload, 1) := dk_46 (blk_at bk_cX7_limit_40 25 rfl)
theorem dX7_limit_66 : decode cX7_limit 66 = .ok (.istore 5, 2) := dq_54 bk_cX7_limit_40 26 rfl rfl
theorem dX7_limit_68 : decode cX7_limit 68 = .ok (.iload 4, 2) := dq_21 bk_cX7_limit_40 28 rfl rfl
theorem dX7_limit_70 : decode cX7_limit 70 = .ok (.iload_n 2, 1) := dk_28 (blk_at bk_cX7_limit_40 30 rfl)
theorem dX7_limit_71 : decode cX7_limit 71 = .ok (.if_icmp .ne 9, 3) := dq_160 bk_cX7_limit_40 31 rfl (by decide)
theorem dX7_limit_74 : decode cX7_limit 74 = .ok (.iload 5, 2) := dq_21 bk_cX7_limit_40 34 rfl rfl
theorem dX7_limit_76 : decode cX7_limit 76 = .ok (.iload_n 3, 1) := dk_29 (blk_at bk_cX7_limit_40 36 rfl)
theorem dX7_limit_77 : decode cX7_limit 77 = .ok (.if_icmp .eq 27, 3) := dq_159 bk_cX7_limit_40 37 rfl (by decide)
theorem bk_cX7_limit_80 : (cX7_limit.data.toList.drop 80).take 33 = [42, 182, 1, 77, 42, 180, 0, 20, 180, 0, 198, 27, 28, 79, 42, 180, 0, 20, 180, 0, 202, 27, 29, 79, 16, 10, 21, 4, 104, 21, 5, 96, 172] := by decide +kernel
theorem dX7_limit_80 : decode cX7_limit 80 = .ok (.aload_n 0, 1) := dk_42 (blk_at bk_cX7_limit_80 0 rfl)
theorem dX7_limit_81 : decode cX7_limit 81 = .ok (.invokevirtual 333, 3) := dq_182 bk_cX7_limit_80 1 rfl rfl
theorem dX7_limit_84 : decode cX7_limit 84 = .ok (.aload_n 0, 1) := dk_42 (blk_at bk_cX7_limit_80 4 rfl)
theorem dX7_limit_85 : decode cX7_limit 85 = .ok (.getfield 20, 3) := dq_180 bk_cX7_limit_80 5 rfl rfl
theorem dX7_limit_88 : decode cX7_limit 88 = .ok (.getfield 198, 3) := dq_180 bk_cX7_limit_80 8 rfl rfl
theorem dX7_limit_91 : decode cX7_limit 91 = .ok (.iload_n 1, 1) := dk_27 (blk_at bk_cX7_limit_80 11 rfl)
theorem dX7_limit_92 : decode cX7_limit 92 = .ok (.iload_n 2, 1) := dk_28 (blk_at bk_cX7_limit_80 12 rfl)
theorem dX7_limit_93 : decode cX7_limit 93 = .ok (.iastore, 1) := dk_79 (blk_at bk_cX7_limit_80 13 rfl)
theorem dX7_limit_94 : decode cX7_limit 94 = .ok (.aload_n 0, 1) := dk_42 (blk_at bk_cX7_limit_80 14 rfl)
theorem dX7_limit_95 : decode cX7_limit 95 = .ok (.getfield 20, 3) := dq_180 bk_cX7_limit_80 15 rfl rfl
theorem dX7_limit_98 : decode cX7_limit 98 = .ok (.getfield 202, 3) := dq_180 bk_cX7_limit_80 18 rfl rfl
theorem dX7_limit_101 : decode cX7_limit 101 = .ok (.iload_n 1, 1) := dk_27 (blk_at bk_cX7_limit_80 21 rfl)
theorem dX7_limit_102 : decode cX7_limit 102 = .ok (.iload_n 3, 1) := dk_29 (blk_at bk_cX7_limit_80 22 rfl)
theorem dX7_limit_103 : decode cX7_limit 103 = .ok (.iastore, 1) := dk_79 (blk_at bk_cX7_limit_80 23 rfl)
theorem dX7_limit_104 : decode cX7_limit 104 = .ok (.bipush 10, 2) := dq_16 bk_cX7_limit_80 24 rfl (by decide)
theorem dX7_limit_106 : decode cX7_limit 106 = .ok (.iload 4, 2) := dq_21 bk_cX7_limit_80 26 rfl rfl
theorem dX7_limit_108 : decode cX7_limit 108 = .ok (.imul, 1) := dk_104 (blk_at bk_cX7_limit_80 28 rfl)
theorem dX7_limit_109 : decode cX7_limit 109 = .ok (.iload 5, 2) := dq_21 bk_cX7_limit_80 29 rfl rfl
theorem dX7_limit_111 : decode cX7_limit 111 = .ok (.iadd, 1) := dk_96 (blk_at bk_cX7_limit_80 31 rfl)
theorem dX7_limit_112 : decode cX7_limit 112 = .ok (.ireturn, 1) := dk_172 (blk_at bk_cX7_limit_80 32 rfl)
theorem bk_cX7_ask_0 : (cX7_ask.data.toList.drop 0).take 38 = [28, 17, 3, 232, 108, 54, 6, 28, 17, 3, 232, 112, 16, 10, 108, 54, 7, 28, 16, 10, 112, 54, 8, 42, 27, 182, 0, 109, 153, 0, 33, 28, 155, 0, 29, 42, 21, 6] := by decide +kernel
theorem dX7_ask_0 : decode cX7_ask 0 = .ok (.iload_n 2, 1) := dk_28 (blk_at bk_cX7_ask_0 0 rfl)
theorem dX7_ask_1 : decode cX7_ask 1 = .ok (.sipush 1000, 3) := dq_17 bk_cX7_ask_0 1 rfl (by decide)
theorem dX7_ask_4 : decode cX7_ask 4 = .ok (.idiv, 1) := dk_108 (blk_at bk_cX7_ask_0 4 rfl)
theorem dX7_ask_5 : decode cX7_ask 5 = .ok (.istore 6, 2) := dq_54 bk_cX7_ask_0 5 rfl rfl
theorem dX7_ask_7 : decode cX7_ask 7 = .ok (.iload_n 2, 1) := dk_28 (blk_at bk_cX7_ask_0 7 rfl)
theorem dX7_ask_8 : decode cX7_ask 8 = .ok (.sipush 1000, 3) := dq_17 bk_cX7_ask_0 8 rfl (by decide)
theorem dX7_ask_11 : decode cX7_ask 11 = .ok (.irem, 1) := dk_112 (blk_at bk_cX7_ask_0 11 rfl)
theorem dX7_ask_12 : decode cX7_ask 12 = .ok (.bipush 10, 2) := dq_16 bk_cX7_ask_0 12 rfl (by decide)
theorem dX7_ask_14 : decode cX7_ask 14 = .ok (.idiv, 1) := dk_108 (blk_at bk_cX7_ask_0 14 rfl)
theorem dX7_ask_15 : decode cX7_ask 15 = .ok (.istore 7, 2) := dq_54 bk_cX7_ask_0 15 rfl rfl
theorem dX7_ask_17 : decode cX7_ask 17 = .ok (.iload_n 2, 1) := dk_28 (blk_at bk_cX7_ask_0 17 rfl)
theorem dX7_ask_18 : decode cX7_ask 18 = .ok (.bipush 10, 2) := dq_16 bk_cX7_ask_0 18 rfl (by decide)
theorem dX7_ask_20 : decode cX7_ask 20 = .ok (.irem, 1) := dk_112 (blk_at bk_cX7_ask_0 20 rfl)
theorem dX7_ask_21 : decode cX7_ask 21 = .ok (.istore 8, 2) := dq_54 bk_cX7_ask_0 21 rfl rfl
theorem dX7_ask_23 : decode cX7_ask 23 = .ok (.aload_n 0, 1) := dk_42 (blk_at bk_cX7_ask_0 23 rfl)
theorem dX7_ask_24 : decode cX7_ask 24 = .ok (.iload_n 1, 1) := dk_27 (blk_at bk_cX7_ask_0 24 rfl)
theorem dX7_ask_25 : decode cX7_ask 25 = .ok (.invokevirtual 109, 3) := dq_182 bk_cX7_ask_0 25 rfl rfl
theorem dX7_ask_28 : decode cX7_ask 28 = .ok (.ifCond .eq 33, 3) := dq_153 bk_cX7_ask_0 28 rfl (by decide)
theorem dX7_ask_31 : decode cX7_ask 31 = .ok (.iload_n 2, 1) := dk_28 (blk_at bk_cX7_ask_0 31 rfl)
theorem dX7_ask_32 : decode cX7_ask 32 = .ok (.ifCond .lt 29, 3) := dq_155 bk_cX7_ask_0 32 rfl (by decide)
theorem dX7_ask_35 : decode cX7_ask 35 = .ok (.aload_n 0, 1) := dk_42 (blk_at bk_cX7_ask_0 35 rfl)
theorem dX7_ask_36 : decode cX7_ask 36 = .ok (.iload 6, 2) := dq_21 bk_cX7_ask_0 36 rfl rfl
theorem bk_cX7_ask_38 : (cX7_ask.data.toList.drop 38).take 40 = [182, 0, 245, 153, 0, 20, 42, 21, 7, 182, 0, 195, 153, 0, 11, 21, 8, 184, 0, 218, 154, 0, 6, 16, 254, 172, 42, 29, 182, 0, 167, 153, 0, 33, 42, 21, 4, 182, 0, 167] := by decide +kernel
theorem dX7_ask_38 : decode cX7_ask 38 = .ok (.invokevirtual 245, 3) := dq_182 bk_cX7_ask_38 0 rfl rfl
theorem dX7_ask_41 : decode cX7_ask 41 = .ok (.ifCond .eq 20, 3) := dq_153 bk_cX7_ask_38 3 rfl (by decide)
theorem dX7_ask_44 : decode cX7_ask 44 = .ok (.aload_n 0, 1) := dk_42 (blk_at bk_cX7_ask_38 6 rfl)
theorem dX7_ask_45 : decode cX7_ask 45 = .ok (.iload 7, 2) := dq_21 bk_cX7_ask_38 7 rfl rfl
theorem dX7_ask_47 : decode cX7_ask 47 = .ok (.invokevirtual 195, 3) := dq_182 bk_cX7_ask_38 9 rfl rfl
theorem dX7_ask_50 : decode cX7_ask 50 = .ok (.ifCond .eq 11, 3) := dq_153 bk_cX7_ask_38 12 rfl (by decide)
theorem dX7_ask_53 : decode cX7_ask 53 = .ok (.iload 8, 2) := dq_21 bk_cX7_ask_38 15 rfl rfl
theorem dX7_ask_55 : decode cX7_ask 55 = .ok (.invokestatic 218, 3) := dq_184 bk_cX7_ask_38 17 rfl rfl
theorem dX7_ask_58 : decode cX7_ask 58 = .ok (.ifCond .ne 6, 3) := dq_154 bk_cX7_ask_38 20 rfl (by decide)
theorem dX7_ask_61 : decode cX7_ask 61 = .ok (.bipush (-2), 2) := dq_16 bk_cX7_ask_38 23 rfl (by decide)
theorem dX7_ask_63 : decode cX7_ask 63 = .ok (.ireturn, 1) := dk_172 (blk_at bk_cX7_ask_38 25 rfl)
theorem dX7_ask_64 : decode cX7_ask 64 = .ok (.aload_n 0, 1) := dk_42 (blk_at bk_cX7_ask_38 26 rfl)
theorem dX7_ask_65 : decode cX7_ask 65 = .ok (.iload_n 3, 1) := dk_29 (blk_at bk_cX7_ask_38 27 rfl)
theorem dX7_ask_66 : decode cX7_ask 66 = .ok (.invokevirtual 167, 3) := dq_182 bk_cX7_ask_38 28 rfl rfl
theorem dX7_ask_69 : decode cX7_ask 69 = .ok (.ifCond .eq 33, 3) := dq_153 bk_cX7_ask_38 31 rfl (by decide)
theorem dX7_ask_72 : decode cX7_ask 72 = .ok (.aload_n 0, 1) := dk_42 (blk_at bk_cX7_ask_38 34 rfl)
theorem dX7_ask_73 : decode cX7_ask 73 = .ok (.iload 4, 2) := dq_21 bk_cX7_ask_38 35 rfl rfl
theorem dX7_ask_75 : decode cX7_ask 75 = .ok (.invokevirtual 167, 3) := dq_182 bk_cX7_ask_38 37 rfl rfl
theorem bk_cX7_ask_78 : (cX7_ask.data.toList.drop 78).take 39 = [153, 0, 24, 21, 4, 29, 100, 4, 96, 8, 161, 0, 14, 21, 5, 3, 16, 9, 184, 0, 113, 154, 0, 6, 16, 254, 172, 42, 180, 0, 20, 180, 0, 100, 16, 24, 161, 0, 6] := by decide +kernel
theorem dX7_ask_78 : decode cX7_ask 78 = .ok (.ifCond .eq 24, 3) := dq_153 bk_cX7_ask_78 0 rfl (by decide)
theorem dX7_ask_81 : decode cX7_ask 81 = .ok (.iload 4, 2) := dq_21 bk_cX7_ask_78 3 rfl rfl
theorem dX7_ask_83 : decode cX7_ask 83 = .ok (.iload_n 3, 1) := dk_29 (blk_at bk_cX7_ask_78 5 rfl)
theorem dX7_ask_84 : decode cX7_ask 84 = .ok (.isub, 1) := dk_100 (blk_at bk_cX7_ask_78 6 rfl)
theorem dX7_ask_85 : decode cX7_ask 85 = .ok (.iconst 1, 1) := dk_4 (blk_at bk_cX7_ask_78 7 rfl)
theorem dX7_ask_86 : decode cX7_ask 86 = .ok (.iadd, 1) := dk_96 (blk_at bk_cX7_ask_78 8 rfl)
theorem dX7_ask_87 : decode cX7_ask 87 = .ok (.iconst 5, 1) := dk_8 (blk_at bk_cX7_ask_78 9 rfl)
theorem dX7_ask_88 : decode cX7_ask 88 = .ok (.if_icmp .lt 14, 3) := dq_161 bk_cX7_ask_78 10 rfl (by decide)
theorem dX7_ask_91 : decode cX7_ask 91 = .ok (.iload 5, 2) := dq_21 bk_cX7_ask_78 13 rfl rfl
theorem dX7_ask_93 : decode cX7_ask 93 = .ok (.iconst 0, 1) := dk_3 (blk_at bk_cX7_ask_78 15 rfl)
theorem dX7_ask_94 : decode cX7_ask 94 = .ok (.bipush 9, 2) := dq_16 bk_cX7_ask_78 16 rfl (by decide)
theorem dX7_ask_96 : decode cX7_ask 96 = .ok (.invokestatic 113, 3) := dq_184 bk_cX7_ask_78 18 rfl rfl
theorem dX7_ask_99 : decode cX7_ask 99 = .ok (.ifCond .ne 6, 3) := dq_154 bk_cX7_ask_78 21 rfl (by decide)
theorem dX7_ask_102 : decode cX7_ask 102 = .ok (.bipush (-2), 2) := dq_16 bk_cX7_ask_78 24 rfl (by decide)
theorem dX7_ask_104 : decode cX7_ask 104 = .ok (.ireturn, 1) := dk_172 (blk_at bk_cX7_ask_78 26 rfl)
theorem dX7_ask_105 : decode cX7_ask 105 = .ok (.aload_n 0, 1) := dk_42 (blk_at bk_cX7_ask_78 27 rfl)
theorem dX7_ask_106 : decode cX7_ask 106 = .ok (.getfield 20, 3) := dq_180 bk_cX7_ask_78 28 rfl rfl
theorem dX7_ask_109 : decode cX7_ask 109 = .ok (.getfield 100, 3) := dq_180 bk_cX7_ask_78 31 rfl rfl
theorem dX7_ask_112 : decode cX7_ask 112 = .ok (.bipush 24, 2) := dq_16 bk_cX7_ask_78 34 rfl (by decide)
theorem dX7_ask_114 : decode cX7_ask 114 = .ok (.if_icmp .lt 6, 3) := dq_161 bk_cX7_ask_78 36 rfl (by decide)
theorem bk_cX7_ask_117 : (cX7_ask.data.toList.drop 117).take 39 = [16, 251, 172, 42, 182, 1, 77, 42, 180, 0, 20, 182, 1, 105, 58, 9, 25, 9, 27, 21, 6, 21, 7, 21, 8, 182, 1, 109, 25, 9, 29, 21, 4, 21, 5, 182, 1, 113, 42] := by decide +kernel
theorem dX7_ask_117 : decode cX7_ask 117 = .ok (.bipush (-5), 2) := dq_16 bk_cX7_ask_117 0 rfl (by decide)
theorem dX7_ask_119 : decode cX7_ask 119 = .ok (.ireturn, 1) := dk_172 (blk_at bk_cX7_ask_117 2 rfl)
theorem dX7_ask_120 : decode cX7_ask 120 = .ok (.aload_n 0, 1) := dk_42 (blk_at bk_cX7_ask_117 3 rfl)
theorem dX7_ask_121 : decode cX7_ask 121 = .ok (.invokevirtual 333, 3) := dq_182 bk_cX7_ask_117 4 rfl rfl
theorem dX7_ask_124 : decode cX7_ask 124 = .ok (.aload_n 0, 1) := dk_42 (blk_at bk_cX7_ask_117 7 rfl)
theorem dX7_ask_125 : decode cX7_ask 125 = .ok (.getfield 20, 3) := dq_180 bk_cX7_ask_117 8 rfl rfl
theorem dX7_ask_128 : decode cX7_ask 128 = .ok (.invokevirtual 361, 3) := dq_182 bk_cX7_ask_117 11 rfl rfl
theorem dX7_ask_131 : decode cX7_ask 131 = .ok (.astore 9, 2) := dq_58 bk_cX7_ask_117 14 rfl rfl
theorem dX7_ask_133 : decode cX7_ask 133 = .ok (.aload 9, 2) := dq_25 bk_cX7_ask_117 16 rfl rfl
theorem dX7_ask_135 : decode cX7_ask 135 = .ok (.iload_n 1, 1) := dk_27 (blk_at bk_cX7_ask_117 18 rfl)
theorem dX7_ask_136 : decode cX7_ask 136 = .ok (.iload 6, 2) := dq_21 bk_cX7_ask_117 19 rfl rfl
theorem dX7_ask_138 : decode cX7_ask 138 = .ok (.iload 7, 2) := dq_21 bk_cX7_ask_117 21 rfl rfl
theorem dX7_ask_140 : decode cX7_ask 140 = .ok (.iload 8, 2) := dq_21 bk_cX7_ask_117 23 rfl rfl
theorem dX7_ask_142 : decode cX7_ask 142 = .ok (.invokevirtual 365, 3) := dq_182 bk_cX7_ask_117 25 rfl rfl
theorem dX7_ask_145 : decode cX7_ask 145 = .ok (.aload 9, 2) := dq_25 bk_cX7_ask_117 28 rfl rfl
theorem dX7_ask_147 : decode cX7_ask 147 = .ok (.iload_n 3, 1) := dk_29 (blk_at bk_cX7_ask_117 30 rfl)
theorem dX7_ask_148 : decode cX7_ask 148 = .ok (.iload 4, 2) := dq_21 bk_cX7_ask_117 31 rfl rfl
theorem dX7_ask_150 : decode cX7_ask 150 = .ok (.iload 5, 2) := dq_21 bk_cX7_ask_117 33 rfl rfl
theorem dX7_ask_152 : decode cX7_ask 152 = .ok (.invokevirtual 369, 3) := dq_182 bk_cX7_ask_117 35 rfl rfl
theorem dX7_ask_155 : decode cX7_ask 155 = .ok (.aload_n 0, 1) := dk_42 (blk_at bk_cX7_ask_117 38 rfl)
theorem bk_cX7_ask_156 : (cX7_ask.data.toList.drop 156).take 7 = [180, 0, 20, 180, 0, 100, 172] := by decide +kernel
theorem dX7_ask_156 : decode cX7_ask 156 = .ok (.getfield 20, 3) := dq_180 bk_cX7_ask_156 0 rfl rfl
theorem dX7_ask_159 : decode cX7_ask 159 = .ok (.getfield 100, 3) := dq_180 bk_cX7_ask_156 3 rfl rfl
theorem dX7_ask_162 : decode cX7_ask 162 = .ok (.ireturn, 1) := dk_172 (blk_at bk_cX7_ask_156 6 rfl)
theorem bk_cX7_drop_0 : (cX7_drop.data.toList.drop 0).take 31 = [42, 27, 182, 0, 173, 154, 0, 6, 16, 254, 172, 42, 182, 1, 77, 42, 180, 0, 20, 27, 182, 1, 117, 42, 180, 0, 20, 180, 0, 100, 172] := by decide +kernel
theorem dX7_drop_0 : decode cX7_drop 0 = .ok (.aload_n 0, 1) := dk_42 (blk_at bk_cX7_drop_0 0 rfl)
theorem dX7_drop_1 : decode cX7_drop 1 = .ok (.iload_n 1, 1) := dk_27 (blk_at bk_cX7_drop_0 1 rfl)
theorem dX7_drop_2 : decode cX7_drop 2 = .ok (.invokevirtual 173, 3) := dq_182 bk_cX7_drop_0 2 rfl rfl
theorem dX7_drop_5 : decode cX7_drop 5 = .ok (.ifCond .ne 6, 3) := dq_154 bk_cX7_drop_0 5 rfl (by decide)
theorem dX7_drop_8 : decode cX7_drop 8 = .ok (.bipush (-2), 2) := dq_16 bk_cX7_drop_0 8 rfl (by decide)
theorem dX7_drop_10 : decode cX7_drop 10 = .ok (.ireturn, 1) := dk_172 (blk_at bk_cX7_drop_0 10 rfl)
theorem dX7_drop_11 : decode cX7_drop 11 = .ok (.aload_n 0, 1) := dk_42 (blk_at bk_cX7_drop_0 11 rfl)
theorem dX7_drop_12 : decode cX7_drop 12 = .ok (.invokevirtual 333, 3) := dq_182 bk_cX7_drop_0 12 rfl rfl
theorem dX7_drop_15 : decode cX7_drop 15 = .ok (.aload_n 0, 1) := dk_42 (blk_at bk_cX7_drop_0 15 rfl)
theorem dX7_drop_16 : decode cX7_drop 16 = .ok (.getfield 20, 3) := dq_180 bk_cX7_drop_0 16 rfl rfl
theorem dX7_drop_19 : decode cX7_drop 19 = .ok (.iload_n 1, 1) := dk_27 (blk_at bk_cX7_drop_0 19 rfl)
theorem dX7_drop_20 : decode cX7_drop 20 = .ok (.invokevirtual 373, 3) := dq_182 bk_cX7_drop_0 20 rfl rfl
theorem dX7_drop_23 : decode cX7_drop 23 = .ok (.aload_n 0, 1) := dk_42 (blk_at bk_cX7_drop_0 23 rfl)
theorem dX7_drop_24 : decode cX7_drop 24 = .ok (.getfield 20, 3) := dq_180 bk_cX7_drop_0 24 rfl rfl
theorem dX7_drop_27 : decode cX7_drop 27 = .ok (.getfield 100, 3) := dq_180 bk_cX7_drop_0 27 rfl rfl
theorem dX7_drop_30 : decode cX7_drop 30 = .ok (.ireturn, 1) := dk_172 (blk_at bk_cX7_drop_0 30 rfl)
theorem bk_cX7_ends_0 : (cX7_ends.data.toList.drop 0).take 38 = [42, 182, 0, 121, 154, 0, 6, 16, 254, 172, 42, 180, 0, 20, 182, 1, 23, 154, 0, 6, 16, 250, 172, 42, 182, 1, 77, 42, 180, 0, 20, 182, 1, 120, 42, 180, 0, 20] := by decide +kernel
theorem dX7_ends_0 : decode cX7_ends 0 = .ok (.aload_n 0, 1) := dk_42 (blk_at bk_cX7_ends_0 0 rfl)
theorem dX7_ends_1 : decode cX7_ends 1 = .ok (.invokevirtual 121, 3) := dq_182 bk_cX7_ends_0 1 rfl rfl
theorem dX7_ends_4 : decode cX7_ends 4 = .ok (.ifCond .ne 6, 3) := dq_154 bk_cX7_ends_0 4 rfl (by decide)
theorem dX7_ends_7 : decode cX7_ends 7 = .ok (.bipush (-2), 2) := dq_16 bk_cX7_ends_0 7 rfl (by decide)
theorem dX7_ends_9 : decode cX7_ends 9 = .ok (.ireturn, 1) := dk_172 (blk_at bk_cX7_ends_0 9 rfl)
theorem dX7_ends_10 : decode cX7_ends 10 = .ok (.aload_n 0, 1) := dk_42 (blk_at bk_cX7_ends_0 10 rfl)
theorem dX7_ends_11 : decode cX7_ends 11 = .ok (.getfield 20, 3) := dq_180 bk_cX7_ends_0 11 rfl rfl
theorem dX7_ends_14 : decode cX7_ends 14 = .ok (.invokevirtual 279, 3) := dq_182 bk_cX7_ends_0 14 rfl rfl
theorem dX7_ends_17 : decode cX7_ends 17 = .ok (.ifCond .ne 6, 3) := dq_154 bk_cX7_ends_0 17 rfl (by decide)
theorem dX7_ends_20 : decode cX7_ends 20 = .ok (.bipush (-6), 2) := dq_16 bk_cX7_ends_0 20 rfl (by decide)
theorem dX7_ends_22 : decode cX7_ends 22 = .ok (.ireturn, 1) := dk_172 (blk_at bk_cX7_ends_0 22 rfl)
theorem dX7_ends_23 : decode cX7_ends 23 = .ok (.aload_n 0, 1) := dk_42 (blk_at bk_cX7_ends_0 23 rfl)
theorem dX7_ends_24 : decode cX7_ends 24 = .ok (.invokevirtual 333, 3) := dq_182 bk_cX7_ends_0 24 rfl rfl
theorem dX7_ends_27 : decode cX7_ends 27 = .ok (.aload_n 0, 1) := dk_42 (blk_at bk_cX7_ends_0 27 rfl)
theorem dX7_ends_28 : decode cX7_ends 28 = .ok (.getfield 20, 3) := dq_180 bk_cX7_ends_0 28 rfl rfl
theorem dX7_ends_31 : decode cX7_ends 31 = .ok (.invokevirtual 376, 3) := dq_182 bk_cX7_ends_0 31 rfl rfl
theorem dX7_ends_34 : decode cX7_ends 34 = .ok (.aload_n 0, 1) := dk_42 (blk_at bk_cX7_ends_0 34 rfl)
theorem dX7_ends_35 : decode cX7_ends 35 = .ok (.getfield 20, 3) := dq_180 bk_cX7_ends_0 35 rfl rfl
theorem bk_cX7_ends_38 : (cX7_ends.data.toList.drop 38).take 4 = [180, 0, 97, 172] := by decide +kernel
theorem dX7_ends_38 : decode cX7_ends 38 = .ok (.getfield 97, 3) := dq_180 bk_cX7_ends_38 0 rfl rfl
theorem dX7_ends_41 : decode cX7_ends 41 = .ok (.ireturn, 1) := dk_172 (blk_at bk_cX7_ends_38 3 rfl)
theorem bk_cX7_undo_0 : (cX7_undo.data.toList.drop 0).take 40 = [42, 180, 0, 35, 154, 0, 5, 2, 172, 42, 89, 180, 0, 35, 4, 100, 181, 0, 35, 42, 180, 0, 20, 42, 180, 0, 31, 42, 180, 0, 35, 50, 182, 0, 80, 42, 180, 0, 35, 172] := by decide +kernel
theorem dX7_undo_0 : decode cX7_undo 0 = .ok (.aload_n 0, 1) := dk_42 (blk_at bk_cX7_undo_0 0 rfl)
theorem dX7_undo_1 : decode cX7_undo 1 = .ok (.getfield 35, 3) := dq_180 bk_cX7_undo_0 1 rfl rfl
theorem dX7_undo_4 : decode cX7_undo 4 = .ok (.ifCond .ne 5, 3) := dq_154 bk_cX7_undo_0 4 rfl (by decide)
theorem dX7_undo_7 : decode cX7_undo 7 = .ok (.iconst (-1), 1) := dk_2 (blk_at bk_cX7_undo_0 7 rfl)
theorem dX7_undo_8 : decode cX7_undo 8 = .ok (.ireturn, 1) := dk_172 (blk_at bk_cX7_undo_0 8 rfl)
theorem dX7_undo_9 : decode cX7_undo 9 = .ok (.aload_n 0, 1) := dk_42 (blk_at bk_cX7_undo_0 9 rfl)
theorem dX7_undo_10 : decode cX7_undo 10 = .ok (.dup, 1) := dk_89 (blk_at bk_cX7_undo_0 10 rfl)
theorem dX7_undo_11 : decode cX7_undo 11 = .ok (.getfield 35, 3) := dq_180 bk_cX7_undo_0 11 rfl rfl
theorem dX7_undo_14 : decode cX7_undo 14 = .ok (.iconst 1, 1) := dk_4 (blk_at bk_cX7_undo_0 14 rfl)
theorem dX7_undo_15 : decode cX7_undo 15 = .ok (.isub, 1) := dk_100 (blk_at bk_cX7_undo_0 15 rfl)
theorem dX7_undo_16 : decode cX7_undo 16 = .ok (.putfield 35, 3) := dq_181 bk_cX7_undo_0 16 rfl rfl
theorem dX7_undo_19 : decode cX7_undo 19 = .ok (.aload_n 0, 1) := dk_42 (blk_at bk_cX7_undo_0 19 rfl)
theorem dX7_undo_20 : decode cX7_undo 20 = .ok (.getfield 20, 3) := dq_180 bk_cX7_undo_0 20 rfl rfl
theorem dX7_undo_23 : decode cX7_undo 23 = .ok (.aload_n 0, 1) := dk_42 (blk_at bk_cX7_undo_0 23 rfl)
theorem dX7_undo_24 : decode cX7_undo 24 = .ok (.getfield 31, 3) := dq_180 bk_cX7_undo_0 24 rfl rfl
theorem dX7_undo_27 : decode cX7_undo 27 = .ok (.aload_n 0, 1) := dk_42 (blk_at bk_cX7_undo_0 27 rfl)
theorem dX7_undo_28 : decode cX7_undo 28 = .ok (.getfield 35, 3) := dq_180 bk_cX7_undo_0 28 rfl rfl
theorem dX7_undo_31 : decode cX7_undo 31 = .ok (.aaload, 1) := dk_50 (blk_at bk_cX7_undo_0 31 rfl)
theorem dX7_undo_32 : decode cX7_undo 32 = .ok (.invokevirtual 80, 3) := dq_182 bk_cX7_undo_0 32 rfl rfl
theorem dX7_undo_35 : decode cX7_undo 35 = .ok (.aload_n 0, 1) := dk_42 (blk_at bk_cX7_undo_0 35 rfl)
theorem dX7_undo_36 : decode cX7_undo 36 = .ok (.getfield 35, 3) := dq_180 bk_cX7_undo_0 36 rfl rfl
theorem dX7_undo_39 : decode cX7_undo 39 = .ok (.ireturn, 1) := dk_172 (blk_at bk_cX7_undo_0 39 rfl)
theorem bk_cX7_tell_0 : (cX7_tell.data.toList.drop 0).take 26 = [42, 182, 0, 121, 154, 0, 6, 16, 254, 172, 42, 180, 0, 61, 42, 180, 0, 20, 42, 180, 0, 27, 182, 1, 123, 172] := by decide +kernel
theorem dX7_tell_0 : decode cX7_tell 0 = .ok (.aload_n 0, 1) := dk_42 (blk_at bk_cX7_tell_0 0 rfl)
theorem dX7_tell_1 : decode cX7_tell 1 = .ok (.invokevirtual 121, 3) := dq_182 bk_cX7_tell_0 1 rfl rfl
theorem dX7_tell_4 : decode cX7_tell 4 = .ok (.ifCond .ne 6, 3) := dq_154 bk_cX7_tell_0 4 rfl (by decide)
theorem dX7_tell_7 : decode cX7_tell 7 = .ok (.bipush (-2), 2) := dq_16 bk_cX7_tell_0 7 rfl (by decide)
theorem dX7_tell_9 : decode cX7_tell 9 = .ok (.ireturn, 1) := dk_172 (blk_at bk_cX7_tell_0 9 rfl)
theorem dX7_tell_10 : decode cX7_tell 10 = .ok (.aload_n 0, 1) := dk_42 (blk_at bk_cX7_tell_0 10 rfl)
theorem dX7_tell_11 : decode cX7_tell 11 = .ok (.getfield 61, 3) := dq_180 bk_cX7_tell_0 11 rfl rfl
theorem dX7_tell_14 : decode cX7_tell 14 = .ok (.aload_n 0, 1) := dk_42 (blk_at bk_cX7_tell_0 14 rfl)
theorem dX7_tell_15 : decode cX7_tell 15 = .ok (.getfield 20, 3) := dq_180 bk_cX7_tell_0 15 rfl rfl
theorem dX7_tell_18 : decode cX7_tell 18 = .ok (.aload_n 0, 1) := dk_42 (blk_at bk_cX7_tell_0 18 rfl)
theorem dX7_tell_19 : decode cX7_tell 19 = .ok (.getfield 27, 3) := dq_180 bk_cX7_tell_0 19 rfl rfl
theorem dX7_tell_22 : decode cX7_tell 22 = .ok (.invokevirtual 379, 3) := dq_182 bk_cX7_tell_0 22 rfl rfl
theorem dX7_tell_25 : decode cX7_tell 25 = .ok (.ireturn, 1) := dk_172 (blk_at bk_cX7_tell_0 25 rfl)
theorem bk_cX7_octet_0 : (cX7_octet.data.toList.drop 0).take 27 = [27, 155, 0, 14, 27, 42, 180, 0, 61, 180, 1, 127, 161, 0, 5, 2, 172, 42, 180, 0, 61, 180, 1, 128, 27, 51, 172] := by decide +kernel
theorem dX7_octet_0 : decode cX7_octet 0 = .ok (.iload_n 1, 1) := dk_27 (blk_at bk_cX7_octet_0 0 rfl)
theorem dX7_octet_1 : decode cX7_octet 1 = .ok (.ifCond .lt 14, 3) := dq_155 bk_cX7_octet_0 1 rfl (by decide)
theorem dX7_octet_4 : decode cX7_octet 4 = .ok (.iload_n 1, 1) := dk_27 (blk_at bk_cX7_octet_0 4 rfl)
theorem dX7_octet_5 : decode cX7_octet 5 = .ok (.aload_n 0, 1) := dk_42 (blk_at bk_cX7_octet_0 5 rfl)
theorem dX7_octet_6 : decode cX7_octet 6 = .ok (.getfield 61, 3) := dq_180 bk_cX7_octet_0 6 rfl rfl
theorem dX7_octet_9 : decode cX7_octet 9 = .ok (.getfield 383, 3) := dq_180 bk_cX7_octet_0 9 rfl rfl
theorem dX7_octet_12 : decode cX7_octet 12 = .ok (.if_icmp .lt 5, 3) := dq_161 bk_cX7_octet_0 12 rfl (by decide)
theorem dX7_octet_15 : decode cX7_octet 15 = .ok (.iconst (-1), 1) := dk_2 (blk_at bk_cX7_octet_0 15 rfl)
theorem dX7_octet_16 : decode cX7_octet 16 = .ok (.ireturn, 1) := dk_172 (blk_at bk_cX7_octet_0 16 rfl)
theorem dX7_octet_17 : decode cX7_octet 17 = .ok (.aload_n 0, 1) := dk_42 (blk_at bk_cX7_octet_0 17 rfl)
theorem dX7_octet_18 : decode cX7_octet 18 = .ok (.getfield 61, 3) := dq_180 bk_cX7_octet_0 18 rfl rfl
theorem dX7_octet_21 : decode cX7_octet 21 = .ok (.getfield 384, 3) := dq_180 bk_cX7_octet_0 21 rfl rfl
theorem dX7_octet_24 : decode cX7_octet 24 = .ok (.iload_n 1, 1) := dk_27 (blk_at bk_cX7_octet_0 24 rfl)
theorem dX7_octet_25 : decode cX7_octet 25 = .ok (.baload, 1) := dk_51 (blk_at bk_cX7_octet_0 25 rfl)
theorem dX7_octet_26 : decode cX7_octet 26 = .ok (.ireturn, 1) := dk_172 (blk_at bk_cX7_octet_0 26 rfl)
theorem bk_cX7_putOnTape_0 : (cX7_putOnTape.data.toList.drop 0).take 40 = [16, 24, 61, 28, 155, 0, 42, 42, 180, 0, 13, 17, 4, 176, 162, 0, 26, 42, 180, 0, 9, 42, 180, 0, 13, 27, 28, 124, 145, 84, 42, 89, 180, 0, 13, 4, 96, 181, 0, 13] := by decide +kernel
theorem dX7_putOnTape_0 : decode cX7_putOnTape 0 = .ok (.bipush 24, 2) := dq_16 bk_cX7_putOnTape_0 0 rfl (by decide)
theorem dX7_putOnTape_2 : decode cX7_putOnTape 2 = .ok (.istore_n 2, 1) := dk_61 (blk_at bk_cX7_putOnTape_0 2 rfl)
theorem dX7_putOnTape_3 : decode cX7_putOnTape 3 = .ok (.iload_n 2, 1) := dk_28 (blk_at bk_cX7_putOnTape_0 3 rfl)
theorem dX7_putOnTape_4 : decode cX7_putOnTape 4 = .ok (.ifCond .lt 42, 3) := dq_155 bk_cX7_putOnTape_0 4 rfl (by decide)
theorem dX7_putOnTape_7 : decode cX7_putOnTape 7 = .ok (.aload_n 0, 1) := dk_42 (blk_at bk_cX7_putOnTape_0 7 rfl)
theorem dX7_putOnTape_8 : decode cX7_putOnTape 8 = .ok (.getfield 13, 3) := dq_180 bk_cX7_putOnTape_0 8 rfl rfl
theorem dX7_putOnTape_11 : decode cX7_putOnTape 11 = .ok (.sipush 1200, 3) := dq_17 bk_cX7_putOnTape_0 11 rfl (by decide)
theorem dX7_putOnTape_14 : decode cX7_putOnTape 14 = .ok (.if_icmp .ge 26, 3) := dq_162 bk_cX7_putOnTape_0 14 rfl (by decide)
theorem dX7_putOnTape_17 : decode cX7_putOnTape 17 = .ok (.aload_n 0, 1) := dk_42 (blk_at bk_cX7_putOnTape_0 17 rfl)
theorem dX7_putOnTape_18 : decode cX7_putOnTape 18 = .ok (.getfield 9, 3) := dq_180 bk_cX7_putOnTape_0 18 rfl rfl
theorem dX7_putOnTape_21 : decode cX7_putOnTape 21 = .ok (.aload_n 0, 1) := dk_42 (blk_at bk_cX7_putOnTape_0 21 rfl)
theorem dX7_putOnTape_22 : decode cX7_putOnTape 22 = .ok (.getfield 13, 3) := dq_180 bk_cX7_putOnTape_0 22 rfl rfl
theorem dX7_putOnTape_25 : decode cX7_putOnTape 25 = .ok (.iload_n 1, 1) := dk_27 (blk_at bk_cX7_putOnTape_0 25 rfl)
theorem dX7_putOnTape_26 : decode cX7_putOnTape 26 = .ok (.iload_n 2, 1) := dk_28 (blk_at bk_cX7_putOnTape_0 26 rfl)
theorem dX7_putOnTape_27 : decode cX7_putOnTape 27 = .ok (.iushr, 1) := dk_124 (blk_at bk_cX7_putOnTape_0 27 rfl)
theorem dX7_putOnTape_28 : decode cX7_putOnTape 28 = .ok (.i2b, 1) := dk_145 (blk_at bk_cX7_putOnTape_0 28 rfl)
theorem dX7_putOnTape_29 : decode cX7_putOnTape 29 = .ok (.bastore, 1) := dk_84 (blk_at bk_cX7_putOnTape_0 29 rfl)
theorem dX7_putOnTape_30 : decode cX7_putOnTape 30 = .ok (.aload_n 0, 1) := dk_42 (blk_at bk_cX7_putOnTape_0 30 rfl)
theorem dX7_putOnTape_31 : decode cX7_putOnTape 31 = .ok (.dup, 1) := dk_89 (blk_at bk_cX7_putOnTape_0 31 rfl)
theorem dX7_putOnTape_32 : decode cX7_putOnTape 32 = .ok (.getfield 13, 3) := dq_180 bk_cX7_putOnTape_0 32 rfl rfl
theorem dX7_putOnTape_35 : decode cX7_putOnTape 35 = .ok (.iconst 1, 1) := dk_4 (blk_at bk_cX7_putOnTape_0 35 rfl)
theorem dX7_putOnTape_36 : decode cX7_putOnTape 36 = .ok (.iadd, 1) := dk_96 (blk_at bk_cX7_putOnTape_0 36 rfl)
theorem dX7_putOnTape_37 : decode cX7_putOnTape 37 = .ok (.putfield 13, 3) := dq_181 bk_cX7_putOnTape_0 37 rfl rfl
theorem bk_cX7_putOnTape_40 : (cX7_putOnTape.data.toList.drop 40).take 7 = [132, 2, 248, 167, 255, 216, 177] := by decide +kernel
theorem dX7_putOnTape_40 : decode cX7_putOnTape 40 = .ok (.iinc 2 (-8), 3) := dq_132 bk_cX7_putOnTape_40 0 rfl rfl (by decide)
theorem dX7_putOnTape_43 : decode cX7_putOnTape 43 = .ok (.goto (-40), 3) := dq_167 bk_cX7_putOnTape_40 3 rfl (by decide)
theorem dX7_putOnTape_46 : decode cX7_putOnTape 46 = .ok (.return_, 1) := dk_177 (blk_at bk_cX7_putOnTape_40 6 rfl)
theorem bk_cX7_hasText_0 : (cX7_hasText.data.toList.drop 0).take 16 = [42, 180, 0, 20, 180, 0, 91, 158, 0, 7, 4, 167, 0, 4, 3, 172] := by decide +kernel
theorem dX7_hasText_0 : decode cX7_hasText 0 = .ok (.aload_n 0, 1) := dk_42 (blk_at bk_cX7_hasText_0 0 rfl)
theorem dX7_hasText_1 : decode cX7_hasText 1 = .ok (.getfield 20, 3) := dq_180 bk_cX7_hasText_0 1 rfl rfl
theorem dX7_hasText_4 : decode cX7_hasText 4 = .ok (.getfield 91, 3) := dq_180 bk_cX7_hasText_0 4 rfl rfl
theorem dX7_hasText_7 : decode cX7_hasText 7 = .ok (.ifCond .le 7, 3) := dq_158 bk_cX7_hasText_0 7 rfl (by decide)
theorem dX7_hasText_10 : decode cX7_hasText 10 = .ok (.iconst 1, 1) := dk_4 (blk_at bk_cX7_hasText_0 10 rfl)
theorem dX7_hasText_11 : decode cX7_hasText 11 = .ok (.goto 4, 3) := dq_167 bk_cX7_hasText_0 11 rfl (by decide)
theorem dX7_hasText_14 : decode cX7_hasText 14 = .ok (.iconst 0, 1) := dk_3 (blk_at bk_cX7_hasText_0 14 rfl)
theorem dX7_hasText_15 : decode cX7_hasText 15 = .ok (.ireturn, 1) := dk_172 (blk_at bk_cX7_hasText_0 15 rfl)
theorem bk_cX7_isSeries_0 : (cX7_isSeries.data.toList.drop 0).take 21 = [27, 155, 0, 18, 27, 42, 180, 0, 20, 180, 0, 97, 162, 0, 7, 4, 167, 0, 4, 3, 172] := by decide +kernel
theorem dX7_isSeries_0 : decode cX7_isSeries 0 = .ok (.iload_n 1, 1) := dk_27 (blk_at bk_cX7_isSeries_0 0 rfl)
theorem dX7_isSeries_1 : decode cX7_isSeries 1 = .ok (.ifCond .lt 18, 3) := dq_155 bk_cX7_isSeries_0 1 rfl (by decide)
theorem dX7_isSeries_4 : decode cX7_isSeries 4 = .ok (.iload_n 1, 1) := dk_27 (blk_at bk_cX7_isSeries_0 4 rfl)
theorem dX7_isSeries_5 : decode cX7_isSeries 5 = .ok (.aload_n 0, 1) := dk_42 (blk_at bk_cX7_isSeries_0 5 rfl)
theorem dX7_isSeries_6 : decode cX7_isSeries 6 = .ok (.getfield 20, 3) := dq_180 bk_cX7_isSeries_0 6 rfl rfl
theorem dX7_isSeries_9 : decode cX7_isSeries 9 = .ok (.getfield 97, 3) := dq_180 bk_cX7_isSeries_0 9 rfl rfl
theorem dX7_isSeries_12 : decode cX7_isSeries 12 = .ok (.if_icmp .ge 7, 3) := dq_162 bk_cX7_isSeries_0 12 rfl (by decide)
theorem dX7_isSeries_15 : decode cX7_isSeries 15 = .ok (.iconst 1, 1) := dk_4 (blk_at bk_cX7_isSeries_0 15 rfl)
theorem dX7_isSeries_16 : decode cX7_isSeries 16 = .ok (.goto 4, 3) := dq_167 bk_cX7_isSeries_0 16 rfl (by decide)
theorem dX7_isSeries_19 : decode cX7_isSeries 19 = .ok (.iconst 0, 1) := dk_3 (blk_at bk_cX7_isSeries_0 19 rfl)
theorem dX7_isSeries_20 : decode cX7_isSeries 20 = .ok (.ireturn, 1) := dk_172 (blk_at bk_cX7_isSeries_0 20 rfl)
theorem bk_cX7_isAsk_0 : (cX7_isAsk.data.toList.drop 0).take 21 = [27, 155, 0, 18, 27, 42, 180, 0, 20, 180, 0, 100, 162, 0, 7, 4, 167, 0, 4, 3, 172] := by decide +kernel
theorem dX7_isAsk_0 : decode cX7_isAsk 0 = .ok (.iload_n 1, 1) := dk_27 (blk_at bk_cX7_isAsk_0 0 rfl)
theorem dX7_isAsk_1 : decode cX7_isAsk 1 = .ok (.ifCond .lt 18, 3) := dq_155 bk_cX7_isAsk_0 1 rfl (by decide)
theorem dX7_isAsk_4 : decode cX7_isAsk 4 = .ok (.iload_n 1, 1) := dk_27 (blk_at bk_cX7_isAsk_0 4 rfl)
theorem dX7_isAsk_5 : decode cX7_isAsk 5 = .ok (.aload_n 0, 1) := dk_42 (blk_at bk_cX7_isAsk_0 5 rfl)
theorem dX7_isAsk_6 : decode cX7_isAsk 6 = .ok (.getfield 20, 3) := dq_180 bk_cX7_isAsk_0 6 rfl rfl
theorem dX7_isAsk_9 : decode cX7_isAsk 9 = .ok (.getfield 100, 3) := dq_180 bk_cX7_isAsk_0 9 rfl rfl
theorem dX7_isAsk_12 : decode cX7_isAsk 12 = .ok (.if_icmp .ge 7, 3) := dq_162 bk_cX7_isAsk_0 12 rfl (by decide)
theorem dX7_isAsk_15 : decode cX7_isAsk 15 = .ok (.iconst 1, 1) := dk_4 (blk_at bk_cX7_isAsk_0 15 rfl)
theorem dX7_isAsk_16 : decode cX7_isAsk 16 = .ok (.goto 4, 3) := dq_167 bk_cX7_isAsk_0 16 rfl (by decide)
theorem dX7_isAsk_19 : decode cX7_isAsk 19 = .ok (.iconst 0, 1) := dk_3 (blk_at bk_cX7_isAsk_0 19 rfl)
theorem dX7_isAsk_20 : decode cX7_isAsk 20 = .ok (.ireturn, 1) := dk_172 (blk_at bk_cX7_isAsk_0 20 rfl)
theorem bk_cX7_isCarrier_0 : (cX7_isCarrier.data.toList.drop 0).take 21 = [27, 155, 0, 18, 27, 42, 180, 0, 27, 180, 0, 94, 162, 0, 7, 4, 167, 0, 4, 3, 172] := by decide +kernel
theorem dX7_isCarrier_0 : decode cX7_isCarrier 0 = .ok (.iload_n 1, 1) := dk_27 (blk_at bk_cX7_isCarrier_0 0 rfl)
theorem dX7_isCarrier_1 : decode cX7_isCarrier 1 = .ok (.ifCond .lt 18, 3) := dq_155 bk_cX7_isCarrier_0 1 rfl (by decide)
theorem dX7_isCarrier_4 : decode cX7_isCarrier 4 = .ok (.iload_n 1, 1) := dk_27 (blk_at bk_cX7_isCarrier_0 4 rfl)
theorem dX7_isCarrier_5 : decode cX7_isCarrier 5 = .ok (.aload_n 0, 1) := dk_42 (blk_at bk_cX7_isCarrier_0 5 rfl)
theorem dX7_isCarrier_6 : decode cX7_isCarrier 6 = .ok (.getfield 27, 3) := dq_180 bk_cX7_isCarrier_0 6 rfl rfl
theorem dX7_isCarrier_9 : decode cX7_isCarrier 9 = .ok (.getfield 94, 3) := dq_180 bk_cX7_isCarrier_0 9 rfl rfl
theorem dX7_isCarrier_12 : decode cX7_isCarrier 12 = .ok (.if_icmp .ge 7, 3) := dq_162 bk_cX7_isCarrier_0 12 rfl (by decide)
theorem dX7_isCarrier_15 : decode cX7_isCarrier 15 = .ok (.iconst 1, 1) := dk_4 (blk_at bk_cX7_isCarrier_0 15 rfl)
theorem dX7_isCarrier_16 : decode cX7_isCarrier 16 = .ok (.goto 4, 3) := dq_167 bk_cX7_isCarrier_0 16 rfl (by decide)
theorem dX7_isCarrier_19 : decode cX7_isCarrier 19 = .ok (.iconst 0, 1) := dk_3 (blk_at bk_cX7_isCarrier_0 19 rfl)
theorem dX7_isCarrier_20 : decode cX7_isCarrier 20 = .ok (.ireturn, 1) := dk_172 (blk_at bk_cX7_isCarrier_0 20 rfl)
theorem bk_cX7_isWeek_0 : (cX7_isWeek.data.toList.drop 0).take 21 = [27, 155, 0, 18, 27, 42, 180, 0, 20, 180, 0, 91, 162, 0, 7, 4, 167, 0, 4, 3, 172] := by decide +kernel
theorem dX7_isWeek_0 : decode cX7_isWeek 0 = .ok (.iload_n 1, 1) := dk_27 (blk_at bk_cX7_isWeek_0 0 rfl)
theorem dX7_isWeek_1 : decode cX7_isWeek 1 = .ok (.ifCond .lt 18, 3) := dq_155 bk_cX7_isWeek_0 1 rfl (by decide)
theorem dX7_isWeek_4 : decode cX7_isWeek 4 = .ok (.iload_n 1, 1) := dk_27 (blk_at bk_cX7_isWeek_0 4 rfl)
theorem dX7_isWeek_5 : decode cX7_isWeek 5 = .ok (.aload_n 0, 1) := dk_42 (blk_at bk_cX7_isWeek_0 5 rfl)
theorem dX7_isWeek_6 : decode cX7_isWeek 6 = .ok (.getfield 20, 3) := dq_180 bk_cX7_isWeek_0 6 rfl rfl
theorem dX7_isWeek_9 : decode cX7_isWeek 9 = .ok (.getfield 91, 3) := dq_180 bk_cX7_isWeek_0 9 rfl rfl
theorem dX7_isWeek_12 : decode cX7_isWeek 12 = .ok (.if_icmp .ge 7, 3) := dq_162 bk_cX7_isWeek_0 12 rfl (by decide)
theorem dX7_isWeek_15 : decode cX7_isWeek 15 = .ok (.iconst 1, 1) := dk_4 (blk_at bk_cX7_isWeek_0 15 rfl)
theorem dX7_isWeek_16 : decode cX7_isWeek 16 = .ok (.goto 4, 3) := dq_167 bk_cX7_isWeek_0 16 rfl (by decide)
theorem dX7_isWeek_19 : decode cX7_isWeek 19 = .ok (.iconst 0, 1) := dk_3 (blk_at bk_cX7_isWeek_0 19 rfl)
theorem dX7_isWeek_20 : decode cX7_isWeek 20 = .ok (.ireturn, 1) := dk_172 (blk_at bk_cX7_isWeek_0 20 rfl)
theorem bk_cX7_isDay_0 : (cX7_isDay.data.toList.drop 0).take 23 = [42, 182, 0, 121, 153, 0, 17, 27, 155, 0, 13, 27, 16, 7, 162, 0, 7, 4, 167, 0, 4, 3, 172] := by decide +kernel
theorem dX7_isDay_0 : decode cX7_isDay 0 = .ok (.aload_n 0, 1) := dk_42 (blk_at bk_cX7_isDay_0 0 rfl)
theorem dX7_isDay_1 : decode cX7_isDay 1 = .ok (.invokevirtual 121, 3) := dq_182 bk_cX7_isDay_0 1 rfl rfl
theorem dX7_isDay_4 : decode cX7_isDay 4 = .ok (.ifCond .eq 17, 3) := dq_153 bk_cX7_isDay_0 4 rfl (by decide)
theorem dX7_isDay_7 : decode cX7_isDay 7 = .ok (.iload_n 1, 1) := dk_27 (blk_at bk_cX7_isDay_0 7 rfl)
theorem dX7_isDay_8 : decode cX7_isDay 8 = .ok (.ifCond .lt 13, 3) := dq_155 bk_cX7_isDay_0 8 rfl (by decide)
theorem dX7_isDay_11 : decode cX7_isDay 11 = .ok (.iload_n 1, 1) := dk_27 (blk_at bk_cX7_isDay_0 11 rfl)
theorem dX7_isDay_12 : decode cX7_isDay 12 = .ok (.bipush 7, 2) := dq_16 bk_cX7_isDay_0 12 rfl (by decide)
theorem dX7_isDay_14 : decode cX7_isDay 14 = .ok (.if_icmp .ge 7, 3) := dq_162 bk_cX7_isDay_0 14 rfl (by decide)
theorem dX7_isDay_17 : decode cX7_isDay 17 = .ok (.iconst 1, 1) := dk_4 (blk_at bk_cX7_isDay_0 17 rfl)
theorem dX7_isDay_18 : decode cX7_isDay 18 = .ok (.goto 4, 3) := dq_167 bk_cX7_isDay_0 18 rfl (by decide)
theorem dX7_isDay_21 : decode cX7_isDay 21 = .ok (.iconst 0, 1) := dk_3 (blk_at bk_cX7_isDay_0 21 rfl)
theorem dX7_isDay_22 : decode cX7_isDay 22 = .ok (.ireturn, 1) := dk_172 (blk_at bk_cX7_isDay_0 22 rfl)
theorem bk_cX7_isHour_0 : (cX7_isHour.data.toList.drop 0).take 23 = [42, 182, 0, 121, 153, 0, 17, 27, 155, 0, 13, 27, 16, 24, 162, 0, 7, 4, 167, 0, 4, 3, 172] := by decide +kernel
theorem dX7_isHour_0 : decode cX7_isHour 0 = .ok (.aload_n 0, 1) := dk_42 (blk_at bk_cX7_isHour_0 0 rfl)
theorem dX7_isHour_1 : decode cX7_isHour 1 = .ok (.invokevirtual 121, 3) := dq_182 bk_cX7_isHour_0 1 rfl rfl
theorem dX7_isHour_4 : decode cX7_isHour 4 = .ok (.ifCond .eq 17, 3) := dq_153 bk_cX7_isHour_0 4 rfl (by decide)
theorem dX7_isHour_7 : decode cX7_isHour 7 = .ok (.iload_n 1, 1) := dk_27 (blk_at bk_cX7_isHour_0 7 rfl)
theorem dX7_isHour_8 : decode cX7_isHour 8 = .ok (.ifCond .lt 13, 3) := dq_155 bk_cX7_isHour_0 8 rfl (by decide)
theorem dX7_isHour_11 : decode cX7_isHour 11 = .ok (.iload_n 1, 1) := dk_27 (blk_at bk_cX7_isHour_0 11 rfl)
theorem dX7_isHour_12 : decode cX7_isHour 12 = .ok (.bipush 24, 2) := dq_16 bk_cX7_isHour_0 12 rfl (by decide)
theorem dX7_isHour_14 : decode cX7_isHour 14 = .ok (.if_icmp .ge 7, 3) := dq_162 bk_cX7_isHour_0 14 rfl (by decide)
theorem dX7_isHour_17 : decode cX7_isHour 17 = .ok (.iconst 1, 1) := dk_4 (blk_at bk_cX7_isHour_0 17 rfl)
theorem dX7_isHour_18 : decode cX7_isHour 18 = .ok (.goto 4, 3) := dq_167 bk_cX7_isHour_0 18 rfl (by decide)
theorem dX7_isHour_21 : decode cX7_isHour 21 = .ok (.iconst 0, 1) := dk_3 (blk_at bk_cX7_isHour_0 21 rfl)
theorem dX7_isHour_22 : decode cX7_isHour 22 = .ok (.ireturn, 1) := dk_172 (blk_at bk_cX7_isHour_0 22 rfl)
theorem bk_cX7_isCell_0 : (cX7_isCell.data.toList.drop 0).take 30 = [42, 27, 182, 0, 167, 153, 0, 23, 42, 28, 182, 0, 245, 153, 0, 15, 42, 29, 182, 0, 195, 153, 0, 7, 4, 167, 0, 4, 3, 172] := by decide +kernel
theorem dX7_isCell_0 : decode cX7_isCell 0 = .ok (.aload_n 0, 1) := dk_42 (blk_at bk_cX7_isCell_0 0 rfl)
theorem dX7_isCell_1 : decode cX7_isCell 1 = .ok (.iload_n 1, 1) := dk_27 (blk_at bk_cX7_isCell_0 1 rfl)
theorem dX7_isCell_2 : decode cX7_isCell 2 = .ok (.invokevirtual 167, 3) := dq_182 bk_cX7_isCell_0 2 rfl rfl
theorem dX7_isCell_5 : decode cX7_isCell 5 = .ok (.ifCond .eq 23, 3) := dq_153 bk_cX7_isCell_0 5 rfl (by decide)
theorem dX7_isCell_8 : decode cX7_isCell 8 = .ok (.aload_n 0, 1) := dk_42 (blk_at bk_cX7_isCell_0 8 rfl)
theorem dX7_isCell_9 : decode cX7_isCell 9 = .ok (.iload_n 2, 1) := dk_28 (blk_at bk_cX7_isCell_0 9 rfl)
theorem dX7_isCell_10 : decode cX7_isCell 10 = .ok (.invokevirtual 245, 3) := dq_182 bk_cX7_isCell_0 10 rfl rfl
theorem dX7_isCell_13 : decode cX7_isCell 13 = .ok (.ifCond .eq 15, 3) := dq_153 bk_cX7_isCell_0 13 rfl (by decide)
theorem dX7_isCell_16 : decode cX7_isCell 16 = .ok (.aload_n 0, 1) := dk_42 (blk_at bk_cX7_isCell_0 16 rfl)
theorem dX7_isCell_17 : decode cX7_isCell 17 = .ok (.iload_n 3, 1) := dk_29 (blk_at bk_cX7_isCell_0 17 rfl)
theorem dX7_isCell_18 : decode cX7_isCell 18 = .ok (.invokevirtual 195, 3) := dq_182 bk_cX7_isCell_0 18 rfl rfl
theorem dX7_isCell_21 : decode cX7_isCell 21 = .ok (.ifCond .eq 7, 3) := dq_153 bk_cX7_isCell_0 21 rfl (by decide)
theorem dX7_isCell_24 : decode cX7_isCell 24 = .ok (.iconst 1, 1) := dk_4 (blk_at bk_cX7_isCell_0 24 rfl)
theorem dX7_isCell_25 : decode cX7_isCell 25 = .ok (.goto 4, 3) := dq_167 bk_cX7_isCell_0 25 rfl (by decide)
theorem dX7_isCell_28 : decode cX7_isCell 28 = .ok (.iconst 0, 1) := dk_3 (blk_at bk_cX7_isCell_0 28 rfl)
theorem dX7_isCell_29 : decode cX7_isCell 29 = .ok (.ireturn, 1) := dk_172 (blk_at bk_cX7_isCell_0 29 rfl)
theorem bk_cX7_remember_0 : (cX7_remember.data.toList.drop 0).take 38 = [42, 180, 0, 35, 16, 10, 160, 0, 56, 42, 180, 0, 31, 3, 50, 76, 4, 61, 28, 16, 10, 162, 0, 23, 42, 180, 0, 31, 28, 4, 100, 42, 180, 0, 31, 28, 50, 83] := by decide +kernel
theorem dX7_remember_0 : decode cX7_remember 0 = .ok (.aload_n 0, 1) := dk_42 (blk_at bk_cX7_remember_0 0 rfl)
theorem dX7_remember_1 : decode cX7_remember 1 = .ok (.getfield 35, 3) := dq_180 bk_cX7_remember_0 1 rfl rfl
theorem dX7_remember_4 : decode cX7_remember 4 = .ok (.bipush 10, 2) := dq_16 bk_cX7_remember_0 4 rfl (by decide)
theorem dX7_remember_6 : decode cX7_remember 6 = .ok (.if_icmp .ne 56, 3) := dq_160 bk_cX7_remember_0 6 rfl (by decide)
theorem dX7_remember_9 : decode cX7_remember 9 = .ok (.aload_n 0, 1) := dk_42 (blk_at bk_cX7_remember_0 9 rfl)
theorem dX7_remember_10 : decode cX7_remember 10 = .ok (.getfield 31, 3) := dq_180 bk_cX7_remember_0 10 rfl rfl
theorem dX7_remember_13 : decode cX7_remember 13 = .ok (.iconst 0, 1) := dk_3 (blk_at bk_cX7_remember_0 13 rfl)
theorem dX7_remember_14 : decode cX7_remember 14 = .ok (.aaload, 1) := dk_50 (blk_at bk_cX7_remember_0 14 rfl)
theorem dX7_remember_15 : decode cX7_remember 15 = .ok (.astore_n 1, 1) := dk_76 (blk_at bk_cX7_remember_0 15 rfl)
theorem dX7_remember_16 : decode cX7_remember 16 = .ok (.iconst 1, 1) := dk_4 (blk_at bk_cX7_remember_0 16 rfl)
theorem dX7_remember_17 : decode cX7_remember 17 = .ok (.istore_n 2, 1) := dk_61 (blk_at bk_cX7_remember_0 17 rfl)
theorem dX7_remember_18 : decode cX7_remember 18 = .ok (.iload_n 2, 1) := dk_28 (blk_at bk_cX7_remember_0 18 rfl)
theorem dX7_remember_19 : decode cX7_remember 19 = .ok (.bipush 10, 2) := dq_16 bk_cX7_remember_0 19 rfl (by decide)
theorem dX7_remember_21 : decode cX7_remember 21 = .ok (.if_icmp .ge 23, 3) := dq_162 bk_cX7_remember_0 21 rfl (by decide)
theorem dX7_remember_24 : decode cX7_remember 24 = .ok (.aload_n 0, 1) := dk_42 (blk_at bk_cX7_remember_0 24 rfl)
theorem dX7_remember_25 : decode cX7_remember 25 = .ok (.getfield 31, 3) := dq_180 bk_cX7_remember_0 25 rfl rfl
theorem dX7_remember_28 : decode cX7_remember 28 = .ok (.iload_n 2, 1) := dk_28 (blk_at bk_cX7_remember_0 28 rfl)
theorem dX7_remember_29 : decode cX7_remember 29 = .ok (.iconst 1, 1) := dk_4 (blk_at bk_cX7_remember_0 29 rfl)
theorem dX7_remember_30 : decode cX7_remember 30 = .ok (.isub, 1) := dk_100 (blk_at bk_cX7_remember_0 30 rfl)
theorem dX7_remember_31 : decode cX7_remember 31 = .ok (.aload_n 0, 1) := dk_42 (blk_at bk_cX7_remember_0 31 rfl)
theorem dX7_remember_32 : decode cX7_remember 32 = .ok (.getfield 31, 3) := dq_180 bk_cX7_remember_0 32 rfl rfl
theorem dX7_remember_35 : decode cX7_remember 35 = .ok (.iload_n 2, 1) := dk_28 (blk_at bk_cX7_remember_0 35 rfl)
theorem dX7_remember_36 : decode cX7_remember 36 = .ok (.aaload, 1) := dk_50 (blk_at bk_cX7_remember_0 36 rfl)
theorem dX7_remember_37 : decode cX7_remember 37 = .ok (.aastore, 1) := dk_83 (blk_at bk_cX7_remember_0 37 rfl)
theorem bk_cX7_remember_38 : (cX7_remember.data.toList.drop 38).take 40 = [132, 2, 1, 167, 255, 233, 42, 180, 0, 31, 16, 9, 43, 83, 42, 89, 180, 0, 35, 4, 100, 181, 0, 35, 42, 180, 0, 31, 42, 180, 0, 35, 50, 42, 180, 0, 20, 182, 0, 80] := by decide +kernel
theorem dX7_remember_38 : decode cX7_remember 38 = .ok (.iinc 2 1, 3) := dq_132 bk_cX7_remember_38 0 rfl rfl (by decide)
theorem dX7_remember_41 : decode cX7_remember 41 = .ok (.goto (-23), 3) := dq_167 bk_cX7_remember_38 3 rfl (by decide)
theorem dX7_remember_44 : decode cX7_remember 44 = .ok (.aload_n 0, 1) := dk_42 (blk_at bk_cX7_remember_38 6 rfl)
theorem dX7_remember_45 : decode cX7_remember 45 = .ok (.getfield 31, 3) := dq_180 bk_cX7_remember_38 7 rfl rfl
theorem dX7_remember_48 : decode cX7_remember 48 = .ok (.bipush 9, 2) := dq_16 bk_cX7_remember_38 10 rfl (by decide)
theorem dX7_remember_50 : decode cX7_remember 50 = .ok (.aload_n 1, 1) := dk_43 (blk_at bk_cX7_remember_38 12 rfl)
theorem dX7_remember_51 : decode cX7_remember 51 = .ok (.aastore, 1) := dk_83 (blk_at bk_cX7_remember_38 13 rfl)
theorem dX7_remember_52 : decode cX7_remember 52 = .ok (.aload_n 0, 1) := dk_42 (blk_at bk_cX7_remember_38 14 rfl)
theorem dX7_remember_53 : decode cX7_remember 53 = .ok (.dup, 1) := dk_89 (blk_at bk_cX7_remember_38 15 rfl)
theorem dX7_remember_54 : decode cX7_remember 54 = .ok (.getfield 35, 3) := dq_180 bk_cX7_remember_38 16 rfl rfl
theorem dX7_remember_57 : decode cX7_remember 57 = .ok (.iconst 1, 1) := dk_4 (blk_at bk_cX7_remember_38 19 rfl)
theorem dX7_remember_58 : decode cX7_remember 58 = .ok (.isub, 1) := dk_100 (blk_at bk_cX7_remember_38 20 rfl)
theorem dX7_remember_59 : decode cX7_remember 59 = .ok (.putfield 35, 3) := dq_181 bk_cX7_remember_38 21 rfl rfl
theorem dX7_remember_62 : decode cX7_remember 62 = .ok (.aload_n 0, 1) := dk_42 (blk_at bk_cX7_remember_38 24 rfl)
theorem dX7_remember_63 : decode cX7_remember 63 = .ok (.getfield 31, 3) := dq_180 bk_cX7_remember_38 25 rfl rfl
theorem dX7_remember_66 : decode cX7_remember 66 = .ok (.aload_n 0, 1) := dk_42 (blk_at bk_cX7_remember_38 28 rfl)
theorem dX7_remember_67 : decode cX7_remember 67 = .ok (.getfield 35, 3) := dq_180 bk_cX7_remember_38 29 rfl rfl
theorem dX7_remember_70 : decode cX7_remember 70 = .ok (.aaload, 1) := dk_50 (blk_at bk_cX7_remember_38 32 rfl)
theorem dX7_remember_71 : decode cX7_remember 71 = .ok (.aload_n 0, 1) := dk_42 (blk_at bk_cX7_remember_38 33 rfl)
theorem dX7_remember_72 : decode cX7_remember 72 = .ok (.getfield 20, 3) := dq_180 bk_cX7_remember_38 34 rfl rfl
theorem dX7_remember_75 : decode cX7_remember 75 = .ok (.invokevirtual 80, 3) := dq_182 bk_cX7_remember_38 37 rfl rfl
theorem bk_cX7_remember_78 : (cX7_remember.data.toList.drop 78).take 11 = [42, 89, 180, 0, 35, 4, 96, 181, 0, 35, 177] := by decide +kernel
theorem dX7_remember_78 : decode cX7_remember 78 = .ok (.aload_n 0, 1) := dk_42 (blk_at bk_cX7_remember_78 0 rfl)
theorem dX7_remember_79 : decode cX7_remember 79 = .ok (.dup, 1) := dk_89 (blk_at bk_cX7_remember_78 1 rfl)
theorem dX7_remember_80 : decode cX7_remember 80 = .ok (.getfield 35, 3) := dq_180 bk_cX7_remember_78 2 rfl rfl
theorem dX7_remember_83 : decode cX7_remember 83 = .ok (.iconst 1, 1) := dk_4 (blk_at bk_cX7_remember_78 5 rfl)
theorem dX7_remember_84 : decode cX7_remember 84 = .ok (.iadd, 1) := dk_96 (blk_at bk_cX7_remember_78 6 rfl)
theorem dX7_remember_85 : decode cX7_remember 85 = .ok (.putfield 35, 3) := dq_181 bk_cX7_remember_78 7 rfl rfl
theorem dX7_remember_88 : decode cX7_remember 88 = .ok (.return_, 1) := dk_177 (blk_at bk_cX7_remember_78 10 rfl)
theorem bk_cX7_usesMore_0 : (cX7_usesMore.data.toList.drop 0).take 38 = [42, 180, 0, 20, 27, 2, 182, 1, 7, 62, 42, 180, 0, 20, 28, 2, 182, 1, 7, 54, 4, 29, 153, 0, 8, 21, 4, 154, 0, 32, 29, 21, 4, 160, 0, 16, 27, 28] := by decide +kernel
theorem dX7_usesMore_0 : decode cX7_usesMore 0 = .ok (.aload_n 0, 1) := dk_42 (blk_at bk_cX7_usesMore_0 0 rfl)
theorem dX7_usesMore_1 : decode cX7_usesMore 1 = .ok (.getfield 20, 3) := dq_180 bk_cX7_usesMore_0 1 rfl rfl
theorem dX7_usesMore_4 : decode cX7_usesMore 4 = .ok (.iload_n 1, 1) := dk_27 (blk_at bk_cX7_usesMore_0 4 rfl)
theorem dX7_usesMore_5 : decode cX7_usesMore 5 = .ok (.iconst (-1), 1) := dk_2 (blk_at bk_cX7_usesMore_0 5 rfl)
theorem dX7_usesMore_6 : decode cX7_usesMore 6 = .ok (.invokevirtual 263, 3) := dq_182 bk_cX7_usesMore_0 6 rfl rfl
theorem dX7_usesMore_9 : decode cX7_usesMore 9 = .ok (.istore_n 3, 1) := dk_62 (blk_at bk_cX7_usesMore_0 9 rfl)
theorem dX7_usesMore_10 : decode cX7_usesMore 10 = .ok (.aload_n 0, 1) := dk_42 (blk_at bk_cX7_usesMore_0 10 rfl)
theorem dX7_usesMore_11 : decode cX7_usesMore 11 = .ok (.getfield 20, 3) := dq_180 bk_cX7_usesMore_0 11 rfl rfl
theorem dX7_usesMore_14 : decode cX7_usesMore 14 = .ok (.iload_n 2, 1) := dk_28 (blk_at bk_cX7_usesMore_0 14 rfl)
theorem dX7_usesMore_15 : decode cX7_usesMore 15 = .ok (.iconst (-1), 1) := dk_2 (blk_at bk_cX7_usesMore_0 15 rfl)
theorem dX7_usesMore_16 : decode cX7_usesMore 16 = .ok (.invokevirtual 263, 3) := dq_182 bk_cX7_usesMore_0 16 rfl rfl
theorem dX7_usesMore_19 : decode cX7_usesMore 19 = .ok (.istore 4, 2) := dq_54 bk_cX7_usesMore_0 19 rfl rfl
theorem dX7_usesMore_21 : decode cX7_usesMore 21 = .ok (.iload_n 3, 1) := dk_29 (blk_at bk_cX7_usesMore_0 21 rfl)
theorem dX7_usesMore_22 : decode cX7_usesMore 22 = .ok (.ifCond .eq 8, 3) := dq_153 bk_cX7_usesMore_0 22 rfl (by decide)
theorem dX7_usesMore_25 : decode cX7_usesMore 25 = .ok (.iload 4, 2) := dq_21 bk_cX7_usesMore_0 25 rfl rfl
theorem dX7_usesMore_27 : decode cX7_usesMore 27 = .ok (.ifCond .ne 32, 3) := dq_154 bk_cX7_usesMore_0 27 rfl (by decide)
theorem dX7_usesMore_30 : decode cX7_usesMore 30 = .ok (.iload_n 3, 1) := dk_29 (blk_at bk_cX7_usesMore_0 30 rfl)
theorem dX7_usesMore_31 : decode cX7_usesMore 31 = .ok (.iload 4, 2) := dq_21 bk_cX7_usesMore_0 31 rfl rfl
theorem dX7_usesMore_33 : decode cX7_usesMore 33 = .ok (.if_icmp .ne 16, 3) := dq_160 bk_cX7_usesMore_0 33 rfl (by decide)
theorem dX7_usesMore_36 : decode cX7_usesMore 36 = .ok (.iload_n 1, 1) := dk_27 (blk_at bk_cX7_usesMore_0 36 rfl)
theorem dX7_usesMore_37 : decode cX7_usesMore 37 = .ok (.iload_n 2, 1) := dk_28 (blk_at bk_cX7_usesMore_0 37 rfl)
theorem bk_cX7_usesMore_38 : (cX7_usesMore.data.toList.drop 38).take 39 = [162, 0, 7, 4, 167, 0, 16, 3, 167, 0, 12, 29, 158, 0, 7, 4, 167, 0, 4, 3, 172, 42, 180, 0, 20, 27, 182, 1, 131, 21, 4, 104, 54, 5, 42, 180, 0, 20, 28] := by decide +kernel
theorem dX7_usesMore_38 : decode cX7_usesMore 38 = .ok (.if_icmp .ge 7, 3) := dq_162 bk_cX7_usesMore_38 0 rfl (by decide)
theorem dX7_usesMore_41 : decode cX7_usesMore 41 = .ok (.iconst 1, 1) := dk_4 (blk_at bk_cX7_usesMore_38 3 rfl)
theorem dX7_usesMore_42 : decode cX7_usesMore 42 = .ok (.goto 16, 3) := dq_167 bk_cX7_usesMore_38 4 rfl (by decide)
theorem dX7_usesMore_45 : decode cX7_usesMore 45 = .ok (.iconst 0, 1) := dk_3 (blk_at bk_cX7_usesMore_38 7 rfl)
theorem dX7_usesMore_46 : decode cX7_usesMore 46 = .ok (.goto 12, 3) := dq_167 bk_cX7_usesMore_38 8 rfl (by decide)
theorem dX7_usesMore_49 : decode cX7_usesMore 49 = .ok (.iload_n 3, 1) := dk_29 (blk_at bk_cX7_usesMore_38 11 rfl)
theorem dX7_usesMore_50 : decode cX7_usesMore 50 = .ok (.ifCond .le 7, 3) := dq_158 bk_cX7_usesMore_38 12 rfl (by decide)
theorem dX7_usesMore_53 : decode cX7_usesMore 53 = .ok (.iconst 1, 1) := dk_4 (blk_at bk_cX7_usesMore_38 15 rfl)
theorem dX7_usesMore_54 : decode cX7_usesMore 54 = .ok (.goto 4, 3) := dq_167 bk_cX7_usesMore_38 16 rfl (by decide)
theorem dX7_usesMore_57 : decode cX7_usesMore 57 = .ok (.iconst 0, 1) := dk_3 (blk_at bk_cX7_usesMore_38 19 rfl)
theorem dX7_usesMore_58 : decode cX7_usesMore 58 = .ok (.ireturn, 1) := dk_172 (blk_at bk_cX7_usesMore_38 20 rfl)
theorem dX7_usesMore_59 : decode cX7_usesMore 59 = .ok (.aload_n 0, 1) := dk_42 (blk_at bk_cX7_usesMore_38 21 rfl)
theorem dX7_usesMore_60 : decode cX7_usesMore 60 = .ok (.getfield 20, 3) := dq_180 bk_cX7_usesMore_38 22 rfl rfl
theorem dX7_usesMore_63 : decode cX7_usesMore 63 = .ok (.iload_n 1, 1) := dk_27 (blk_at bk_cX7_usesMore_38 25 rfl)
theorem dX7_usesMore_64 : decode cX7_usesMore 64 = .ok (.invokevirtual 387, 3) := dq_182 bk_cX7_usesMore_38 26 rfl rfl
theorem dX7_usesMore_67 : decode cX7_usesMore 67 = .ok (.iload 4, 2) := dq_21 bk_cX7_usesMore_38 29 rfl rfl
theorem dX7_usesMore_69 : decode cX7_usesMore 69 = .ok (.imul, 1) := dk_104 (blk_at bk_cX7_usesMore_38 31 rfl)
theorem dX7_usesMore_70 : decode cX7_usesMore 70 = .ok (.istore 5, 2) := dq_54 bk_cX7_usesMore_38 32 rfl rfl
theorem dX7_usesMore_72 : decode cX7_usesMore 72 = .ok (.aload_n 0, 1) := dk_42 (blk_at bk_cX7_usesMore_38 34 rfl)
theorem dX7_usesMore_73 : decode cX7_usesMore 73 = .ok (.getfield 20, 3) := dq_180 bk_cX7_usesMore_38 35 rfl rfl
theorem dX7_usesMore_76 : decode cX7_usesMore 76 = .ok (.iload_n 2, 1) := dk_28 (blk_at bk_cX7_usesMore_38 38 rfl)
theorem bk_cX7_usesMore_77 : (cX7_usesMore.data.toList.drop 77).take 40 = [182, 1, 131, 29, 104, 54, 6, 21, 5, 21, 6, 160, 0, 16, 27, 28, 162, 0, 7, 4, 167, 0, 19, 3, 167, 0, 15, 21, 5, 21, 6, 164, 0, 7, 4, 167, 0, 4, 3, 172] := by decide +kernel
theorem dX7_usesMore_77 : decode cX7_usesMore 77 = .ok (.invokevirtual 387, 3) := dq_182 bk_cX7_usesMore_77 0 rfl rfl
theorem dX7_usesMore_80 : decode cX7_usesMore 80 = .ok (.iload_n 3, 1) := dk_29 (blk_at bk_cX7_usesMore_77 3 rfl)
theorem dX7_usesMore_81 : decode cX7_usesMore 81 = .ok (.imul, 1) := dk_104 (blk_at bk_cX7_usesMore_77 4 rfl)
theorem dX7_usesMore_82 : decode cX7_usesMore 82 = .ok (.istore 6, 2) := dq_54 bk_cX7_usesMore_77 5 rfl rfl
theorem dX7_usesMore_84 : decode cX7_usesMore 84 = .ok (.iload 5, 2) := dq_21 bk_cX7_usesMore_77 7 rfl rfl
theorem dX7_usesMore_86 : decode cX7_usesMore 86 = .ok (.iload 6, 2) := dq_21 bk_cX7_usesMore_77 9 rfl rfl
theorem dX7_usesMore_88 : decode cX7_usesMore 88 = .ok (.if_icmp .ne 16, 3) := dq_160 bk_cX7_usesMore_77 11 rfl (by decide)
theorem dX7_usesMore_91 : decode cX7_usesMore 91 = .ok (.iload_n 1, 1) := dk_27 (blk_at bk_cX7_usesMore_77 14 rfl)
theorem dX7_usesMore_92 : decode cX7_usesMore 92 = .ok (.iload_n 2, 1) := dk_28 (blk_at bk_cX7_usesMore_77 15 rfl)
theorem dX7_usesMore_93 : decode cX7_usesMore 93 = .ok (.if_icmp .ge 7, 3) := dq_162 bk_cX7_usesMore_77 16 rfl (by decide)
theorem dX7_usesMore_96 : decode cX7_usesMore 96 = .ok (.iconst 1, 1) := dk_4 (blk_at bk_cX7_usesMore_77 19 rfl)
theorem dX7_usesMore_97 : decode cX7_usesMore 97 = .ok (.goto 19, 3) := dq_167 bk_cX7_usesMore_77 20 rfl (by decide)
theorem dX7_usesMore_100 : decode cX7_usesMore 100 = .ok (.iconst 0, 1) := dk_3 (blk_at bk_cX7_usesMore_77 23 rfl)
theorem dX7_usesMore_101 : decode cX7_usesMore 101 = .ok (.goto 15, 3) := dq_167 bk_cX7_usesMore_77 24 rfl (by decide)
theorem dX7_usesMore_104 : decode cX7_usesMore 104 = .ok (.iload 5, 2) := dq_21 bk_cX7_usesMore_77 27 rfl rfl
theorem dX7_usesMore_106 : decode cX7_usesMore 106 = .ok (.iload 6, 2) := dq_21 bk_cX7_usesMore_77 29 rfl rfl
theorem dX7_usesMore_108 : decode cX7_usesMore 108 = .ok (.if_icmp .le 7, 3) := dq_164 bk_cX7_usesMore_77 31 rfl (by decide)
theorem dX7_usesMore_111 : decode cX7_usesMore 111 = .ok (.iconst 1, 1) := dk_4 (blk_at bk_cX7_usesMore_77 34 rfl)
theorem dX7_usesMore_112 : decode cX7_usesMore 112 = .ok (.goto 4, 3) := dq_167 bk_cX7_usesMore_77 35 rfl (by decide)
theorem dX7_usesMore_115 : decode cX7_usesMore 115 = .ok (.iconst 0, 1) := dk_3 (blk_at bk_cX7_usesMore_77 38 rfl)
theorem dX7_usesMore_116 : decode cX7_usesMore 116 = .ok (.ireturn, 1) := dk_172 (blk_at bk_cX7_usesMore_77 39 rfl)
theorem bk_cX7_departuresBehind_0 : (cX7_departuresBehind.data.toList.drop 0).take 39 = [3, 62, 3, 54, 4, 21, 4, 42, 180, 0, 20, 180, 0, 97, 162, 0, 80, 42, 180, 0, 20, 180, 0, 135, 21, 4, 50, 58, 5, 25, 5, 43, 180, 0, 139, 43, 180, 0, 144] := by decide +kernel
theorem dX7_departuresBehind_0 : decode cX7_departuresBehind 0 = .ok (.iconst 0, 1) := dk_3 (blk_at bk_cX7_departuresBehind_0 0 rfl)
theorem dX7_departuresBehind_1 : decode cX7_departuresBehind 1 = .ok (.istore_n 3, 1) := dk_62 (blk_at bk_cX7_departuresBehind_0 1 rfl)
theorem dX7_departuresBehind_2 : decode cX7_departuresBehind 2 = .ok (.iconst 0, 1) := dk_3 (blk_at bk_cX7_departuresBehind_0 2 rfl)
theorem dX7_departuresBehind_3 : decode cX7_departuresBehind 3 = .ok (.istore 4, 2) := dq_54 bk_cX7_departuresBehind_0 3 rfl rfl
theorem dX7_departuresBehind_5 : decode cX7_departuresBehind 5 = .ok (.iload 4, 2) := dq_21 bk_cX7_departuresBehind_0 5 rfl rfl
theorem dX7_departuresBehind_7 : decode cX7_departuresBehind 7 = .ok (.aload_n 0, 1) := dk_42 (blk_at bk_cX7_departuresBehind_0 7 rfl)
theorem dX7_departuresBehind_8 : decode cX7_departuresBehind 8 = .ok (.getfield 20, 3) := dq_180 bk_cX7_departuresBehind_0 8 rfl rfl
theorem dX7_departuresBehind_11 : decode cX7_departuresBehind 11 = .ok (.getfield 97, 3) := dq_180 bk_cX7_departuresBehind_0 11 rfl rfl
theorem dX7_departuresBehind_14 : decode cX7_departuresBehind 14 = .ok (.if_icmp .ge 80, 3) := dq_162 bk_cX7_departuresBehind_0 14 rfl (by decide)
theorem dX7_departuresBehind_17 : decode cX7_departuresBehind 17 = .ok (.aload_n 0, 1) := dk_42 (blk_at bk_cX7_departuresBehind_0 17 rfl)
theorem dX7_departuresBehind_18 : decode cX7_departuresBehind 18 = .ok (.getfield 20, 3) := dq_180 bk_cX7_departuresBehind_0 18 rfl rfl
theorem dX7_departuresBehind_21 : decode cX7_departuresBehind 21 = .ok (.getfield 135, 3) := dq_180 bk_cX7_departuresBehind_0 21 rfl rfl
theorem dX7_departuresBehind_24 : decode cX7_departuresBehind 24 = .ok (.iload 4, 2) := dq_21 bk_cX7_departuresBehind_0 24 rfl rfl
theorem dX7_departuresBehind_26 : decode cX7_departuresBehind 26 = .ok (.aaload, 1) := dk_50 (blk_at bk_cX7_departuresBehind_0 26 rfl)
theorem dX7_departuresBehind_27 : decode cX7_departuresBehind 27 = .ok (.astore 5, 2) := dq_58 bk_cX7_departuresBehind_0 27 rfl rfl
theorem dX7_departuresBehind_29 : decode cX7_departuresBehind 29 = .ok (.aload 5, 2) := dq_25 bk_cX7_departuresBehind_0 29 rfl rfl
theorem dX7_departuresBehind_31 : decode cX7_departuresBehind 31 = .ok (.aload_n 1, 1) := dk_43 (blk_at bk_cX7_departuresBehind_0 31 rfl)
theorem dX7_departuresBehind_32 : decode cX7_departuresBehind 32 = .ok (.getfield 139, 3) := dq_180 bk_cX7_departuresBehind_0 32 rfl rfl
theorem dX7_departuresBehind_35 : decode cX7_departuresBehind 35 = .ok (.aload_n 1, 1) := dk_43 (blk_at bk_cX7_departuresBehind_0 35 rfl)
theorem dX7_departuresBehind_36 : decode cX7_departuresBehind 36 = .ok (.getfield 144, 3) := dq_180 bk_cX7_departuresBehind_0 36 rfl rfl
theorem bk_cX7_departuresBehind_39 : (cX7_departuresBehind.data.toList.drop 39).take 39 = [182, 0, 248, 153, 0, 46, 25, 5, 180, 0, 150, 4, 160, 0, 37, 25, 5, 180, 0, 147, 43, 180, 0, 147, 100, 3, 28, 184, 0, 113, 153, 0, 19, 25, 5, 182, 1, 16, 43] := by decide +kernel
theorem dX7_departuresBehind_39 : decode cX7_departuresBehind 39 = .ok (.invokevirtual 248, 3) := dq_182 bk_cX7_departuresBehind_39 0 rfl rfl
theorem dX7_departuresBehind_42 : decode cX7_departuresBehind 42 = .ok (.ifCond .eq 46, 3) := dq_153 bk_cX7_departuresBehind_39 3 rfl (by decide)
theorem dX7_departuresBehind_45 : decode cX7_departuresBehind 45 = .ok (.aload 5, 2) := dq_25 bk_cX7_departuresBehind_39 6 rfl rfl
theorem dX7_departuresBehind_47 : decode cX7_departuresBehind 47 = .ok (.getfield 150, 3) := dq_180 bk_cX7_departuresBehind_39 8 rfl rfl
theorem dX7_departuresBehind_50 : decode cX7_departuresBehind 50 = .ok (.iconst 1, 1) := dk_4 (blk_at bk_cX7_departuresBehind_39 11 rfl)
theorem dX7_departuresBehind_51 : decode cX7_departuresBehind 51 = .ok (.if_icmp .ne 37, 3) := dq_160 bk_cX7_departuresBehind_39 12 rfl (by decide)
theorem dX7_departuresBehind_54 : decode cX7_departuresBehind 54 = .ok (.aload 5, 2) := dq_25 bk_cX7_departuresBehind_39 15 rfl rfl
theorem dX7_departuresBehind_56 : decode cX7_departuresBehind 56 = .ok (.getfield 147, 3) := dq_180 bk_cX7_departuresBehind_39 17 rfl rfl
theorem dX7_departuresBehind_59 : decode cX7_departuresBehind 59 = .ok (.aload_n 1, 1) := dk_43 (blk_at bk_cX7_departuresBehind_39 20 rfl)
theorem dX7_departuresBehind_60 : decode cX7_departuresBehind 60 = .ok (.getfield 147, 3) := dq_180 bk_cX7_departuresBehind_39 21 rfl rfl
theorem dX7_departuresBehind_63 : decode cX7_departuresBehind 63 = .ok (.isub, 1) := dk_100 (blk_at bk_cX7_departuresBehind_39 24 rfl)
theorem dX7_departuresBehind_64 : decode cX7_departuresBehind 64 = .ok (.iconst 0, 1) := dk_3 (blk_at bk_cX7_departuresBehind_39 25 rfl)
theorem dX7_departuresBehind_65 : decode cX7_departuresBehind 65 = .ok (.iload_n 2, 1) := dk_28 (blk_at bk_cX7_departuresBehind_39 26 rfl)
theorem dX7_departuresBehind_66 : decode cX7_departuresBehind 66 = .ok (.invokestatic 113, 3) := dq_184 bk_cX7_departuresBehind_39 27 rfl rfl
theorem dX7_departuresBehind_69 : decode cX7_departuresBehind 69 = .ok (.ifCond .eq 19, 3) := dq_153 bk_cX7_departuresBehind_39 30 rfl (by decide)
theorem dX7_departuresBehind_72 : decode cX7_departuresBehind 72 = .ok (.aload 5, 2) := dq_25 bk_cX7_departuresBehind_39 33 rfl rfl
theorem dX7_departuresBehind_74 : decode cX7_departuresBehind 74 = .ok (.invokevirtual 272, 3) := dq_182 bk_cX7_departuresBehind_39 35 rfl rfl
theorem dX7_departuresBehind_77 : decode cX7_departuresBehind 77 = .ok (.aload_n 1, 1) := dk_43 (blk_at bk_cX7_departuresBehind_39 38 rfl)
theorem bk_cX7_departuresBehind_78 : (cX7_departuresBehind.data.toList.drop 78).take 18 = [182, 1, 16, 126, 153, 0, 6, 132, 3, 1, 132, 4, 1, 167, 255, 170, 29, 172] := by decide +kernel
theorem dX7_departuresBehind_78 : decode cX7_departuresBehind 78 = .ok (.invokevirtual 272, 3) := dq_182 bk_cX7_departuresBehind_78 0 rfl rfl
theorem dX7_departuresBehind_81 : decode cX7_departuresBehind 81 = .ok (.iand, 1) := dk_126 (blk_at bk_cX7_departuresBehind_78 3 rfl)
theorem dX7_departuresBehind_82 : decode cX7_departuresBehind 82 = .ok (.ifCond .eq 6, 3) := dq_153 bk_cX7_departuresBehind_78 4 rfl (by decide)
theorem dX7_departuresBehind_85 : decode cX7_departuresBehind 85 = .ok (.iinc 3 1, 3) := dq_132 bk_cX7_departuresBehind_78 7 rfl rfl (by decide)
theorem dX7_departuresBehind_88 : decode cX7_departuresBehind 88 = .ok (.iinc 4 1, 3) := dq_132 bk_cX7_departuresBehind_78 10 rfl rfl (by decide)
theorem dX7_departuresBehind_91 : decode cX7_departuresBehind 91 = .ok (.goto (-86), 3) := dq_167 bk_cX7_departuresBehind_78 13 rfl (by decide)
theorem dX7_departuresBehind_94 : decode cX7_departuresBehind 94 = .ok (.iload_n 3, 1) := dk_29 (blk_at bk_cX7_departuresBehind_78 16 rfl)
theorem dX7_departuresBehind_95 : decode cX7_departuresBehind 95 = .ok (.ireturn, 1) := dk_172 (blk_at bk_cX7_departuresBehind_78 17 rfl)
theorem bk_cX7_canRetime_0 : (cX7_canRetime.data.toList.drop 0).take 38 = [42, 180, 0, 20, 180, 0, 135, 27, 50, 78, 42, 180, 0, 20, 182, 1, 23, 154, 0, 41, 45, 180, 0, 147, 28, 159, 0, 33, 42, 180, 0, 20, 45, 180, 0, 144, 28, 45] := by decide +kernel
theorem dX7_canRetime_0 : decode cX7_canRetime 0 = .ok (.aload_n 0, 1) := dk_42 (blk_at bk_cX7_canRetime_0 0 rfl)
theorem dX7_canRetime_1 : decode cX7_canRetime 1 = .ok (.getfield 20, 3) := dq_180 bk_cX7_canRetime_0 1 rfl rfl
theorem dX7_canRetime_4 : decode cX7_canRetime 4 = .ok (.getfield 135, 3) := dq_180 bk_cX7_canRetime_0 4 rfl rfl
theorem dX7_canRetime_7 : decode cX7_canRetime 7 = .ok (.iload_n 1, 1) := dk_27 (blk_at bk_cX7_canRetime_0 7 rfl)
theorem dX7_canRetime_8 : decode cX7_canRetime 8 = .ok (.aaload, 1) := dk_50 (blk_at bk_cX7_canRetime_0 8 rfl)
theorem dX7_canRetime_9 : decode cX7_canRetime 9 = .ok (.astore_n 3, 1) := dk_78 (blk_at bk_cX7_canRetime_0 9 rfl)
theorem dX7_canRetime_10 : decode cX7_canRetime 10 = .ok (.aload_n 0, 1) := dk_42 (blk_at bk_cX7_canRetime_0 10 rfl)
theorem dX7_canRetime_11 : decode cX7_canRetime 11 = .ok (.getfield 20, 3) := dq_180 bk_cX7_canRetime_0 11 rfl rfl
theorem dX7_canRetime_14 : decode cX7_canRetime 14 = .ok (.invokevirtual 279, 3) := dq_182 bk_cX7_canRetime_0 14 rfl rfl
theorem dX7_canRetime_17 : decode cX7_canRetime 17 = .ok (.ifCond .ne 41, 3) := dq_154 bk_cX7_canRetime_0 17 rfl (by decide)
theorem dX7_canRetime_20 : decode cX7_canRetime 20 = .ok (.aload_n 3, 1) := dk_45 (blk_at bk_cX7_canRetime_0 20 rfl)
theorem dX7_canRetime_21 : decode cX7_canRetime 21 = .ok (.getfield 147, 3) := dq_180 bk_cX7_canRetime_0 21 rfl rfl
theorem dX7_canRetime_24 : decode cX7_canRetime 24 = .ok (.iload_n 2, 1) := dk_28 (blk_at bk_cX7_canRetime_0 24 rfl)
theorem dX7_canRetime_25 : decode cX7_canRetime 25 = .ok (.if_icmp .eq 33, 3) := dq_159 bk_cX7_canRetime_0 25 rfl (by decide)
theorem dX7_canRetime_28 : decode cX7_canRetime 28 = .ok (.aload_n 0, 1) := dk_42 (blk_at bk_cX7_canRetime_0 28 rfl)
theorem dX7_canRetime_29 : decode cX7_canRetime 29 = .ok (.getfield 20, 3) := dq_180 bk_cX7_canRetime_0 29 rfl rfl
theorem dX7_canRetime_32 : decode cX7_canRetime 32 = .ok (.aload_n 3, 1) := dk_45 (blk_at bk_cX7_canRetime_0 32 rfl)
theorem dX7_canRetime_33 : decode cX7_canRetime 33 = .ok (.getfield 144, 3) := dq_180 bk_cX7_canRetime_0 33 rfl rfl
theorem dX7_canRetime_36 : decode cX7_canRetime 36 = .ok (.iload_n 2, 1) := dk_28 (blk_at bk_cX7_canRetime_0 36 rfl)
theorem dX7_canRetime_37 : decode cX7_canRetime 37 = .ok (.aload_n 3, 1) := dk_45 (blk_at bk_cX7_canRetime_0 37 rfl)
theorem bk_cX7_canRetime_38 : (cX7_canRetime.data.toList.drop 38).take 22 = [180, 0, 150, 45, 182, 1, 16, 4, 27, 120, 182, 1, 39, 153, 0, 7, 4, 167, 0, 4, 3, 172] := by decide +kernel
theorem dX7_canRetime_38 : decode cX7_canRetime 38 = .ok (.getfield 150, 3) := dq_180 bk_cX7_canRetime_38 0 rfl rfl
theorem dX7_canRetime_41 : decode cX7_canRetime 41 = .ok (.aload_n 3, 1) := dk_45 (blk_at bk_cX7_canRetime_38 3 rfl)
theorem dX7_canRetime_42 : decode cX7_canRetime 42 = .ok (.invokevirtual 272, 3) := dq_182 bk_cX7_canRetime_38 4 rfl rfl
theorem dX7_canRetime_45 : decode cX7_canRetime 45 = .ok (.iconst 1, 1) := dk_4 (blk_at bk_cX7_canRetime_38 7 rfl)
theorem dX7_canRetime_46 : decode cX7_canRetime 46 = .ok (.iload_n 1, 1) := dk_27 (blk_at bk_cX7_canRetime_38 8 rfl)
theorem dX7_canRetime_47 : decode cX7_canRetime 47 = .ok (.ishl, 1) := dk_120 (blk_at bk_cX7_canRetime_38 9 rfl)
theorem dX7_canRetime_48 : decode cX7_canRetime 48 = .ok (.invokevirtual 295, 3) := dq_182 bk_cX7_canRetime_38 10 rfl rfl
theorem dX7_canRetime_51 : decode cX7_canRetime 51 = .ok (.ifCond .eq 7, 3) := dq_153 bk_cX7_canRetime_38 13 rfl (by decide)
theorem dX7_canRetime_54 : decode cX7_canRetime 54 = .ok (.iconst 1, 1) := dk_4 (blk_at bk_cX7_canRetime_38 16 rfl)
theorem dX7_canRetime_55 : decode cX7_canRetime 55 = .ok (.goto 4, 3) := dq_167 bk_cX7_canRetime_38 17 rfl (by decide)
theorem dX7_canRetime_58 : decode cX7_canRetime 58 = .ok (.iconst 0, 1) := dk_3 (blk_at bk_cX7_canRetime_38 20 rfl)
theorem dX7_canRetime_59 : decode cX7_canRetime 59 = .ok (.ireturn, 1) := dk_172 (blk_at bk_cX7_canRetime_38 21 rfl)
theorem bk_cX7_whySwapFails_0 : (cX7_whySwapFails.data.toList.drop 0).take 40 = [42, 180, 0, 20, 180, 0, 135, 27, 50, 78, 42, 180, 0, 20, 180, 0, 135, 28, 50, 58, 4, 45, 180, 0, 153, 154, 0, 11, 25, 4, 180, 0, 153, 153, 0, 6, 16, 251, 172, 45] := by decide +kernel
theorem dX7_whySwapFails_0 : decode cX7_whySwapFails 0 = .ok (.aload_n 0, 1) := dk_42 (blk_at bk_cX7_whySwapFails_0 0 rfl)
theorem dX7_whySwapFails_1 : decode cX7_whySwapFails 1 = .ok (.getfield 20, 3) := dq_180 bk_cX7_whySwapFails_0 1 rfl rfl
theorem dX7_whySwapFails_4 : decode cX7_whySwapFails 4 = .ok (.getfield 135, 3) := dq_180 bk_cX7_whySwapFails_0 4 rfl rfl
theorem dX7_whySwapFails_7 : decode cX7_whySwapFails 7 = .ok (.iload_n 1, 1) := dk_27 (blk_at bk_cX7_whySwapFails_0 7 rfl)
theorem dX7_whySwapFails_8 : decode cX7_whySwapFails 8 = .ok (.aaload, 1) := dk_50 (blk_at bk_cX7_whySwapFails_0 8 rfl)
theorem dX7_whySwapFails_9 : decode cX7_whySwapFails 9 = .ok (.astore_n 3, 1) := dk_78 (blk_at bk_cX7_whySwapFails_0 9 rfl)
theorem dX7_whySwapFails_10 : decode cX7_whySwapFails 10 = .ok (.aload_n 0, 1) := dk_42 (blk_at bk_cX7_whySwapFails_0 10 rfl)
theorem dX7_whySwapFails_11 : decode cX7_whySwapFails 11 = .ok (.getfield 20, 3) := dq_180 bk_cX7_whySwapFails_0 11 rfl rfl
theorem dX7_whySwapFails_14 : decode cX7_whySwapFails 14 = .ok (.getfield 135, 3) := dq_180 bk_cX7_whySwapFails_0 14 rfl rfl
theorem dX7_whySwapFails_17 : decode cX7_whySwapFails 17 = .ok (.iload_n 2, 1) := dk_28 (blk_at bk_cX7_whySwapFails_0 17 rfl)
theorem dX7_whySwapFails_18 : decode cX7_whySwapFails 18 = .ok (.aaload, 1) := dk_50 (blk_at bk_cX7_whySwapFails_0 18 rfl)
theorem dX7_whySwapFails_19 : decode cX7_whySwapFails 19 = .ok (.astore 4, 2) := dq_58 bk_cX7_whySwapFails_0 19 rfl rfl
theorem dX7_whySwapFails_21 : decode cX7_whySwapFails 21 = .ok (.aload_n 3, 1) := dk_45 (blk_at bk_cX7_whySwapFails_0 21 rfl)
theorem dX7_whySwapFails_22 : decode cX7_whySwapFails 22 = .ok (.getfield 153, 3) := dq_180 bk_cX7_whySwapFails_0 22 rfl rfl
theorem dX7_whySwapFails_25 : decode cX7_whySwapFails 25 = .ok (.ifCond .ne 11, 3) := dq_154 bk_cX7_whySwapFails_0 25 rfl (by decide)
theorem dX7_whySwapFails_28 : decode cX7_whySwapFails 28 = .ok (.aload 4, 2) := dq_25 bk_cX7_whySwapFails_0 28 rfl rfl
theorem dX7_whySwapFails_30 : decode cX7_whySwapFails 30 = .ok (.getfield 153, 3) := dq_180 bk_cX7_whySwapFails_0 30 rfl rfl
theorem dX7_whySwapFails_33 : decode cX7_whySwapFails 33 = .ok (.ifCond .eq 6, 3) := dq_153 bk_cX7_whySwapFails_0 33 rfl (by decide)
theorem dX7_whySwapFails_36 : decode cX7_whySwapFails 36 = .ok (.bipush (-5), 2) := dq_16 bk_cX7_whySwapFails_0 36 rfl (by decide)
theorem dX7_whySwapFails_38 : decode cX7_whySwapFails 38 = .ok (.ireturn, 1) := dk_172 (blk_at bk_cX7_whySwapFails_0 38 rfl)
theorem dX7_whySwapFails_39 : decode cX7_whySwapFails 39 = .ok (.aload_n 3, 1) := dk_45 (blk_at bk_cX7_whySwapFails_0 39 rfl)
theorem bk_cX7_whySwapFails_40 : (cX7_whySwapFails.data.toList.drop 40).take 40 = [180, 0, 139, 25, 4, 180, 0, 139, 160, 0, 6, 16, 250, 172, 45, 25, 4, 182, 1, 98, 42, 180, 0, 20, 45, 180, 0, 144, 45, 180, 0, 147, 45, 180, 0, 150, 45, 182, 1, 16] := by decide +kernel
theorem dX7_whySwapFails_40 : decode cX7_whySwapFails 40 = .ok (.getfield 139, 3) := dq_180 bk_cX7_whySwapFails_40 0 rfl rfl
theorem dX7_whySwapFails_43 : decode cX7_whySwapFails 43 = .ok (.aload 4, 2) := dq_25 bk_cX7_whySwapFails_40 3 rfl rfl
theorem dX7_whySwapFails_45 : decode cX7_whySwapFails 45 = .ok (.getfield 139, 3) := dq_180 bk_cX7_whySwapFails_40 5 rfl rfl
theorem dX7_whySwapFails_48 : decode cX7_whySwapFails 48 = .ok (.if_icmp .ne 6, 3) := dq_160 bk_cX7_whySwapFails_40 8 rfl (by decide)
theorem dX7_whySwapFails_51 : decode cX7_whySwapFails 51 = .ok (.bipush (-6), 2) := dq_16 bk_cX7_whySwapFails_40 11 rfl (by decide)
theorem dX7_whySwapFails_53 : decode cX7_whySwapFails 53 = .ok (.ireturn, 1) := dk_172 (blk_at bk_cX7_whySwapFails_40 13 rfl)
theorem dX7_whySwapFails_54 : decode cX7_whySwapFails 54 = .ok (.aload_n 3, 1) := dk_45 (blk_at bk_cX7_whySwapFails_40 14 rfl)
theorem dX7_whySwapFails_55 : decode cX7_whySwapFails 55 = .ok (.aload 4, 2) := dq_25 bk_cX7_whySwapFails_40 15 rfl rfl
theorem dX7_whySwapFails_57 : decode cX7_whySwapFails 57 = .ok (.invokevirtual 354, 3) := dq_182 bk_cX7_whySwapFails_40 17 rfl rfl
theorem dX7_whySwapFails_60 : decode cX7_whySwapFails 60 = .ok (.aload_n 0, 1) := dk_42 (blk_at bk_cX7_whySwapFails_40 20 rfl)
theorem dX7_whySwapFails_61 : decode cX7_whySwapFails 61 = .ok (.getfield 20, 3) := dq_180 bk_cX7_whySwapFails_40 21 rfl rfl
theorem dX7_whySwapFails_64 : decode cX7_whySwapFails 64 = .ok (.aload_n 3, 1) := dk_45 (blk_at bk_cX7_whySwapFails_40 24 rfl)
theorem dX7_whySwapFails_65 : decode cX7_whySwapFails 65 = .ok (.getfield 144, 3) := dq_180 bk_cX7_whySwapFails_40 25 rfl rfl
theorem dX7_whySwapFails_68 : decode cX7_whySwapFails 68 = .ok (.aload_n 3, 1) := dk_45 (blk_at bk_cX7_whySwapFails_40 28 rfl)
theorem dX7_whySwapFails_69 : decode cX7_whySwapFails 69 = .ok (.getfield 147, 3) := dq_180 bk_cX7_whySwapFails_40 29 rfl rfl
theorem dX7_whySwapFails_72 : decode cX7_whySwapFails 72 = .ok (.aload_n 3, 1) := dk_45 (blk_at bk_cX7_whySwapFails_40 32 rfl)
theorem dX7_whySwapFails_73 : decode cX7_whySwapFails 73 = .ok (.getfield 150, 3) := dq_180 bk_cX7_whySwapFails_40 33 rfl rfl
theorem dX7_whySwapFails_76 : decode cX7_whySwapFails 76 = .ok (.aload_n 3, 1) := dk_45 (blk_at bk_cX7_whySwapFails_40 36 rfl)
theorem dX7_whySwapFails_77 : decode cX7_whySwapFails 77 = .ok (.invokevirtual 272, 3) := dq_182 bk_cX7_whySwapFails_40 37 rfl rfl
theorem bk_cX7_whySwapFails_80 : (cX7_whySwapFails.data.toList.drop 80).take 40 = [4, 27, 120, 4, 28, 120, 128, 182, 1, 39, 153, 0, 40, 42, 180, 0, 20, 25, 4, 180, 0, 144, 25, 4, 180, 0, 147, 25, 4, 180, 0, 150, 25, 4, 182, 1, 16, 4, 28, 120] := by decide +kernel
theorem dX7_whySwapFails_80 : decode cX7_whySwapFails 80 = .ok (.iconst 1, 1) := dk_4 (blk_at bk_cX7_whySwapFails_80 0 rfl)
theorem dX7_whySwapFails_81 : decode cX7_whySwapFails 81 = .ok (.iload_n 1, 1) := dk_27 (blk_at bk_cX7_whySwapFails_80 1 rfl)
theorem dX7_whySwapFails_82 : decode cX7_whySwapFails 82 = .ok (.ishl, 1) := dk_120 (blk_at bk_cX7_whySwapFails_80 2 rfl)
theorem dX7_whySwapFails_83 : decode cX7_whySwapFails 83 = .ok (.iconst 1, 1) := dk_4 (blk_at bk_cX7_whySwapFails_80 3 rfl)
theorem dX7_whySwapFails_84 : decode cX7_whySwapFails 84 = .ok (.iload_n 2, 1) := dk_28 (blk_at bk_cX7_whySwapFails_80 4 rfl)
theorem dX7_whySwapFails_85 : decode cX7_whySwapFails 85 = .ok (.ishl, 1) := dk_120 (blk_at bk_cX7_whySwapFails_80 5 rfl)
theorem dX7_whySwapFails_86 : decode cX7_whySwapFails 86 = .ok (.ior, 1) := dk_128 (blk_at bk_cX7_whySwapFails_80 6 rfl)
theorem dX7_whySwapFails_87 : decode cX7_whySwapFails 87 = .ok (.invokevirtual 295, 3) := dq_182 bk_cX7_whySwapFails_80 7 rfl rfl
theorem dX7_whySwapFails_90 : decode cX7_whySwapFails 90 = .ok (.ifCond .eq 40, 3) := dq_153 bk_cX7_whySwapFails_80 10 rfl (by decide)
theorem dX7_whySwapFails_93 : decode cX7_whySwapFails 93 = .ok (.aload_n 0, 1) := dk_42 (blk_at bk_cX7_whySwapFails_80 13 rfl)
theorem dX7_whySwapFails_94 : decode cX7_whySwapFails 94 = .ok (.getfield 20, 3) := dq_180 bk_cX7_whySwapFails_80 14 rfl rfl
theorem dX7_whySwapFails_97 : decode cX7_whySwapFails 97 = .ok (.aload 4, 2) := dq_25 bk_cX7_whySwapFails_80 17 rfl rfl
theorem dX7_whySwapFails_99 : decode cX7_whySwapFails 99 = .ok (.getfield 144, 3) := dq_180 bk_cX7_whySwapFails_80 19 rfl rfl
theorem dX7_whySwapFails_102 : decode cX7_whySwapFails 102 = .ok (.aload 4, 2) := dq_25 bk_cX7_whySwapFails_80 22 rfl rfl
theorem dX7_whySwapFails_104 : decode cX7_whySwapFails 104 = .ok (.getfield 147, 3) := dq_180 bk_cX7_whySwapFails_80 24 rfl rfl
theorem dX7_whySwapFails_107 : decode cX7_whySwapFails 107 = .ok (.aload 4, 2) := dq_25 bk_cX7_whySwapFails_80 27 rfl rfl
theorem dX7_whySwapFails_109 : decode cX7_whySwapFails 109 = .ok (.getfield 150, 3) := dq_180 bk_cX7_whySwapFails_80 29 rfl rfl
theorem dX7_whySwapFails_112 : decode cX7_whySwapFails 112 = .ok (.aload 4, 2) := dq_25 bk_cX7_whySwapFails_80 32 rfl rfl
theorem dX7_whySwapFails_114 : decode cX7_whySwapFails 114 = .ok (.invokevirtual 272, 3) := dq_182 bk_cX7_whySwapFails_80 34 rfl rfl
theorem dX7_whySwapFails_117 : decode cX7_whySwapFails 117 = .ok (.iconst 1, 1) := dk_4 (blk_at bk_cX7_whySwapFails_80 37 rfl)
theorem dX7_whySwapFails_118 : decode cX7_whySwapFails 118 = .ok (.iload_n 2, 1) := dk_28 (blk_at bk_cX7_whySwapFails_80 38 rfl)
theorem dX7_whySwapFails_119 : decode cX7_whySwapFails 119 = .ok (.ishl, 1) := dk_120 (blk_at bk_cX7_whySwapFails_80 39 rfl)
theorem bk_cX7_whySwapFails_120 : (cX7_whySwapFails.data.toList.drop 120).take 31 = [182, 1, 39, 153, 0, 7, 4, 167, 0, 4, 3, 54, 5, 45, 25, 4, 182, 1, 98, 21, 5, 153, 0, 7, 3, 167, 0, 5, 16, 250, 172] := by decide +kernel
theorem dX7_whySwapFails_120 : decode cX7_whySwapFails 120 = .ok (.invokevirtual 295, 3) := dq_182 bk_cX7_whySwapFails_120 0 rfl rfl
theorem dX7_whySwapFails_123 : decode cX7_whySwapFails 123 = .ok (.ifCond .eq 7, 3) := dq_153 bk_cX7_whySwapFails_120 3 rfl (by decide)
theorem dX7_whySwapFails_126 : decode cX7_whySwapFails 126 = .ok (.iconst 1, 1) := dk_4 (blk_at bk_cX7_whySwapFails_120 6 rfl)
theorem dX7_whySwapFails_127 : decode cX7_whySwapFails 127 = .ok (.goto 4, 3) := dq_167 bk_cX7_whySwapFails_120 7 rfl (by decide)
theorem dX7_whySwapFails_130 : decode cX7_whySwapFails 130 = .ok (.iconst 0, 1) := dk_3 (blk_at bk_cX7_whySwapFails_120 10 rfl)
theorem dX7_whySwapFails_131 : decode cX7_whySwapFails 131 = .ok (.istore 5, 2) := dq_54 bk_cX7_whySwapFails_120 11 rfl rfl
theorem dX7_whySwapFails_133 : decode cX7_whySwapFails 133 = .ok (.aload_n 3, 1) := dk_45 (blk_at bk_cX7_whySwapFails_120 13 rfl)
theorem dX7_whySwapFails_134 : decode cX7_whySwapFails 134 = .ok (.aload 4, 2) := dq_25 bk_cX7_whySwapFails_120 14 rfl rfl
theorem dX7_whySwapFails_136 : decode cX7_whySwapFails 136 = .ok (.invokevirtual 354, 3) := dq_182 bk_cX7_whySwapFails_120 16 rfl rfl
theorem dX7_whySwapFails_139 : decode cX7_whySwapFails 139 = .ok (.iload 5, 2) := dq_21 bk_cX7_whySwapFails_120 19 rfl rfl
theorem dX7_whySwapFails_141 : decode cX7_whySwapFails 141 = .ok (.ifCond .eq 7, 3) := dq_153 bk_cX7_whySwapFails_120 21 rfl (by decide)
theorem dX7_whySwapFails_144 : decode cX7_whySwapFails 144 = .ok (.iconst 0, 1) := dk_3 (blk_at bk_cX7_whySwapFails_120 24 rfl)
theorem dX7_whySwapFails_145 : decode cX7_whySwapFails 145 = .ok (.goto 5, 3) := dq_167 bk_cX7_whySwapFails_120 25 rfl (by decide)
theorem dX7_whySwapFails_148 : decode cX7_whySwapFails 148 = .ok (.bipush (-6), 2) := dq_16 bk_cX7_whySwapFails_120 28 rfl (by decide)
theorem dX7_whySwapFails_150 : decode cX7_whySwapFails 150 = .ok (.ireturn, 1) := dk_172 (blk_at bk_cX7_whySwapFails_120 30 rfl)
theorem bk_cX7_isWithin_0 : (cX7_isWithin.data.toList.drop 0).take 16 = [26, 27, 161, 0, 12, 26, 28, 163, 0, 7, 4, 167, 0, 4, 3, 172] := by decide +kernel
theorem dX7_isWithin_0 : decode cX7_isWithin 0 = .ok (.iload_n 0, 1) := dk_26 (blk_at bk_cX7_isWithin_0 0 rfl)
theorem dX7_isWithin_1 : decode cX7_isWithin 1 = .ok (.iload_n 1, 1) := dk_27 (blk_at bk_cX7_isWithin_0 1 rfl)
theorem dX7_isWithin_2 : decode cX7_isWithin 2 = .ok (.if_icmp .lt 12, 3) := dq_161 bk_cX7_isWithin_0 2 rfl (by decide)
theorem dX7_isWithin_5 : decode cX7_isWithin 5 = .ok (.iload_n 0, 1) := dk_26 (blk_at bk_cX7_isWithin_0 5 rfl)
theorem dX7_isWithin_6 : decode cX7_isWithin 6 = .ok (.iload_n 2, 1) := dk_28 (blk_at bk_cX7_isWithin_0 6 rfl)
theorem dX7_isWithin_7 : decode cX7_isWithin 7 = .ok (.if_icmp .gt 7, 3) := dq_163 bk_cX7_isWithin_0 7 rfl (by decide)
theorem dX7_isWithin_10 : decode cX7_isWithin 10 = .ok (.iconst 1, 1) := dk_4 (blk_at bk_cX7_isWithin_0 10 rfl)
theorem dX7_isWithin_11 : decode cX7_isWithin 11 = .ok (.goto 4, 3) := dq_167 bk_cX7_isWithin_0 11 rfl (by decide)
theorem dX7_isWithin_14 : decode cX7_isWithin 14 = .ok (.iconst 0, 1) := dk_3 (blk_at bk_cX7_isWithin_0 14 rfl)
theorem dX7_isWithin_15 : decode cX7_isWithin 15 = .ok (.ireturn, 1) := dk_172 (blk_at bk_cX7_isWithin_0 15 rfl)
theorem bk_cX7_isWay_0 : (cX7_isWay.data.toList.drop 0).take 15 = [26, 153, 0, 8, 26, 4, 160, 0, 7, 4, 167, 0, 4, 3, 172] := by decide +kernel
theorem dX7_isWay_0 : decode cX7_isWay 0 = .ok (.iload_n 0, 1) := dk_26 (blk_at bk_cX7_isWay_0 0 rfl)
theorem dX7_isWay_1 : decode cX7_isWay 1 = .ok (.ifCond .eq 8, 3) := dq_153 bk_cX7_isWay_0 1 rfl (by decide)
theorem dX7_isWay_4 : decode cX7_isWay 4 = .ok (.iload_n 0, 1) := dk_26 (blk_at bk_cX7_isWay_0 4 rfl)
theorem dX7_isWay_5 : decode cX7_isWay 5 = .ok (.iconst 1, 1) := dk_4 (blk_at bk_cX7_isWay_0 5 rfl)
theorem dX7_isWay_6 : decode cX7_isWay 6 = .ok (.if_icmp .ne 7, 3) := dq_160 bk_cX7_isWay_0 6 rfl (by decide)
theorem dX7_isWay_9 : decode cX7_isWay 9 = .ok (.iconst 1, 1) := dk_4 (blk_at bk_cX7_isWay_0 9 rfl)
theorem dX7_isWay_10 : decode cX7_isWay 10 = .ok (.goto 4, 3) := dq_167 bk_cX7_isWay_0 10 rfl (by decide)
theorem dX7_isWay_13 : decode cX7_isWay 13 = .ok (.iconst 0, 1) := dk_3 (blk_at bk_cX7_isWay_0 13 rfl)
theorem dX7_isWay_14 : decode cX7_isWay 14 = .ok (.ireturn, 1) := dk_172 (blk_at bk_cX7_isWay_0 14 rfl)
theorem bk_cX7_isState_0 : (cX7_isState.data.toList.drop 0).take 15 = [26, 155, 0, 12, 26, 7, 163, 0, 7, 4, 167, 0, 4, 3, 172] := by decide +kernel
theorem dX7_isState_0 : decode cX7_isState 0 = .ok (.iload_n 0, 1) := dk_26 (blk_at bk_cX7_isState_0 0 rfl)
theorem dX7_isState_1 : decode cX7_isState 1 = .ok (.ifCond .lt 12, 3) := dq_155 bk_cX7_isState_0 1 rfl (by decide)
theorem dX7_isState_4 : decode cX7_isState 4 = .ok (.iload_n 0, 1) := dk_26 (blk_at bk_cX7_isState_0 4 rfl)
theorem dX7_isState_5 : decode cX7_isState 5 = .ok (.iconst 4, 1) := dk_7 (blk_at bk_cX7_isState_0 5 rfl)
theorem dX7_isState_6 : decode cX7_isState 6 = .ok (.if_icmp .gt 7, 3) := dq_163 bk_cX7_isState_0 6 rfl (by decide)
theorem dX7_isState_9 : decode cX7_isState 9 = .ok (.iconst 1, 1) := dk_4 (blk_at bk_cX7_isState_0 9 rfl)
theorem dX7_isState_10 : decode cX7_isState 10 = .ok (.goto 4, 3) := dq_167 bk_cX7_isState_0 10 rfl (by decide)
theorem dX7_isState_13 : decode cX7_isState 13 = .ok (.iconst 0, 1) := dk_3 (blk_at bk_cX7_isState_0 13 rfl)
theorem dX7_isState_14 : decode cX7_isState 14 = .ok (.ireturn, 1) := dk_172 (blk_at bk_cX7_isState_0 14 rfl)
theorem bk_cX7_isLetter_0 : (cX7_isLetter.data.toList.drop 0).take 18 = [26, 16, 97, 161, 0, 13, 26, 16, 122, 163, 0, 7, 4, 167, 0, 4, 3, 172] := by decide +kernel
theorem dX7_isLetter_0 : decode cX7_isLetter 0 = .ok (.iload_n 0, 1) := dk_26 (blk_at bk_cX7_isLetter_0 0 rfl)
theorem dX7_isLetter_1 : decode cX7_isLetter 1 = .ok (.bipush 97, 2) := dq_16 bk_cX7_isLetter_0 1 rfl (by decide)
theorem dX7_isLetter_3 : decode cX7_isLetter 3 = .ok (.if_icmp .lt 13, 3) := dq_161 bk_cX7_isLetter_0 3 rfl (by decide)
theorem dX7_isLetter_6 : decode cX7_isLetter 6 = .ok (.iload_n 0, 1) := dk_26 (blk_at bk_cX7_isLetter_0 6 rfl)
theorem dX7_isLetter_7 : decode cX7_isLetter 7 = .ok (.bipush 122, 2) := dq_16 bk_cX7_isLetter_0 7 rfl (by decide)
theorem dX7_isLetter_9 : decode cX7_isLetter 9 = .ok (.if_icmp .gt 7, 3) := dq_163 bk_cX7_isLetter_0 9 rfl (by decide)
theorem dX7_isLetter_12 : decode cX7_isLetter 12 = .ok (.iconst 1, 1) := dk_4 (blk_at bk_cX7_isLetter_0 12 rfl)
theorem dX7_isLetter_13 : decode cX7_isLetter 13 = .ok (.goto 4, 3) := dq_167 bk_cX7_isLetter_0 13 rfl (by decide)
theorem dX7_isLetter_16 : decode cX7_isLetter 16 = .ok (.iconst 0, 1) := dk_3 (blk_at bk_cX7_isLetter_0 16 rfl)
theorem dX7_isLetter_17 : decode cX7_isLetter 17 = .ok (.ireturn, 1) := dk_172 (blk_at bk_cX7_isLetter_0 17 rfl)
theorem bk_cX7_isDigit_0 : (cX7_isDigit.data.toList.drop 0).take 18 = [26, 16, 48, 161, 0, 13, 26, 16, 57, 163, 0, 7, 4, 167, 0, 4, 3, 172] := by decide +kernel
theorem dX7_isDigit_0 : decode cX7_isDigit 0 = .ok (.iload_n 0, 1) := dk_26 (blk_at bk_cX7_isDigit_0 0 rfl)
theorem dX7_isDigit_1 : decode cX7_isDigit 1 = .ok (.bipush 48, 2) := dq_16 bk_cX7_isDigit_0 1 rfl (by decide)
theorem dX7_isDigit_3 : decode cX7_isDigit 3 = .ok (.if_icmp .lt 13, 3) := dq_161 bk_cX7_isDigit_0 3 rfl (by decide)
theorem dX7_isDigit_6 : decode cX7_isDigit 6 = .ok (.iload_n 0, 1) := dk_26 (blk_at bk_cX7_isDigit_0 6 rfl)
theorem dX7_isDigit_7 : decode cX7_isDigit 7 = .ok (.bipush 57, 2) := dq_16 bk_cX7_isDigit_0 7 rfl (by decide)
theorem dX7_isDigit_9 : decode cX7_isDigit 9 = .ok (.if_icmp .gt 7, 3) := dq_163 bk_cX7_isDigit_0 9 rfl (by decide)
theorem dX7_isDigit_12 : decode cX7_isDigit 12 = .ok (.iconst 1, 1) := dk_4 (blk_at bk_cX7_isDigit_0 12 rfl)
theorem dX7_isDigit_13 : decode cX7_isDigit 13 = .ok (.goto 4, 3) := dq_167 bk_cX7_isDigit_0 13 rfl (by decide)
theorem dX7_isDigit_16 : decode cX7_isDigit 16 = .ok (.iconst 0, 1) := dk_3 (blk_at bk_cX7_isDigit_0 16 rfl)
theorem dX7_isDigit_17 : decode cX7_isDigit 17 = .ok (.ireturn, 1) := dk_172 (blk_at bk_cX7_isDigit_0 17 rfl)
theorem bk_cX7_hasBit_0 : (cX7_hasBit.data.toList.drop 0).take 14 = [26, 27, 124, 4, 126, 153, 0, 7, 4, 167, 0, 4, 3, 172] := by decide +kernel
theorem dX7_hasBit_0 : decode cX7_hasBit 0 = .ok (.iload_n 0, 1) := dk_26 (blk_at bk_cX7_hasBit_0 0 rfl)
theorem dX7_hasBit_1 : decode cX7_hasBit 1 = .ok (.iload_n 1, 1) := dk_27 (blk_at bk_cX7_hasBit_0 1 rfl)
theorem dX7_hasBit_2 : decode cX7_hasBit 2 = .ok (.iushr, 1) := dk_124 (blk_at bk_cX7_hasBit_0 2 rfl)
theorem dX7_hasBit_3 : decode cX7_hasBit 3 = .ok (.iconst 1, 1) := dk_4 (blk_at bk_cX7_hasBit_0 3 rfl)
theorem dX7_hasBit_4 : decode cX7_hasBit 4 = .ok (.iand, 1) := dk_126 (blk_at bk_cX7_hasBit_0 4 rfl)
theorem dX7_hasBit_5 : decode cX7_hasBit 5 = .ok (.ifCond .eq 7, 3) := dq_153 bk_cX7_hasBit_0 5 rfl (by decide)
theorem dX7_hasBit_8 : decode cX7_hasBit 8 = .ok (.iconst 1, 1) := dk_4 (blk_at bk_cX7_hasBit_0 8 rfl)
theorem dX7_hasBit_9 : decode cX7_hasBit 9 = .ok (.goto 4, 3) := dq_167 bk_cX7_hasBit_0 9 rfl (by decide)
theorem dX7_hasBit_12 : decode cX7_hasBit 12 = .ok (.iconst 0, 1) := dk_3 (blk_at bk_cX7_hasBit_0 12 rfl)
theorem dX7_hasBit_13 : decode cX7_hasBit 13 = .ok (.ireturn, 1) := dk_172 (blk_at bk_cX7_hasBit_0 13 rfl)
theorem bk_cX7_spanBits_0 : (cX7_spanBits.data.toList.drop 0).take 12 = [4, 27, 26, 100, 4, 96, 120, 4, 100, 26, 120, 172] := by decide +kernel
theorem dX7_spanBits_0 : decode cX7_spanBits 0 = .ok (.iconst 1, 1) := dk_4 (blk_at bk_cX7_spanBits_0 0 rfl)
theorem dX7_spanBits_1 : decode cX7_spanBits 1 = .ok (.iload_n 1, 1) := dk_27 (blk_at bk_cX7_spanBits_0 1 rfl)
theorem dX7_spanBits_2 : decode cX7_spanBits 2 = .ok (.iload_n 0, 1) := dk_26 (blk_at bk_cX7_spanBits_0 2 rfl)
theorem dX7_spanBits_3 : decode cX7_spanBits 3 = .ok (.isub, 1) := dk_100 (blk_at bk_cX7_spanBits_0 3 rfl)
theorem dX7_spanBits_4 : decode cX7_spanBits 4 = .ok (.iconst 1, 1) := dk_4 (blk_at bk_cX7_spanBits_0 4 rfl)
theorem dX7_spanBits_5 : decode cX7_spanBits 5 = .ok (.iadd, 1) := dk_96 (blk_at bk_cX7_spanBits_0 5 rfl)
theorem dX7_spanBits_6 : decode cX7_spanBits 6 = .ok (.ishl, 1) := dk_120 (blk_at bk_cX7_spanBits_0 6 rfl)
theorem dX7_spanBits_7 : decode cX7_spanBits 7 = .ok (.iconst 1, 1) := dk_4 (blk_at bk_cX7_spanBits_0 7 rfl)
theorem dX7_spanBits_8 : decode cX7_spanBits 8 = .ok (.isub, 1) := dk_100 (blk_at bk_cX7_spanBits_0 8 rfl)
theorem dX7_spanBits_9 : decode cX7_spanBits 9 = .ok (.iload_n 0, 1) := dk_26 (blk_at bk_cX7_spanBits_0 9 rfl)
theorem dX7_spanBits_10 : decode cX7_spanBits 10 = .ok (.ishl, 1) := dk_120 (blk_at bk_cX7_spanBits_0 10 rfl)
theorem dX7_spanBits_11 : decode cX7_spanBits 11 = .ok (.ireturn, 1) := dk_172 (blk_at bk_cX7_spanBits_0 11 rfl)
theorem bk_cX7_bitsFrom_0 : (cX7_bitsFrom.data.toList.drop 0).take 14 = [26, 16, 30, 164, 0, 7, 3, 167, 0, 6, 2, 26, 120, 172] := by decide +kernel
theorem dX7_bitsFrom_0 : decode cX7_bitsFrom 0 = .ok (.iload_n 0, 1) := dk_26 (blk_at bk_cX7_bitsFrom_0 0 rfl)
theorem dX7_bitsFrom_1 : decode cX7_bitsFrom 1 = .ok (.bipush 30, 2) := dq_16 bk_cX7_bitsFrom_0 1 rfl (by decide)
theorem dX7_bitsFrom_3 : decode cX7_bitsFrom 3 = .ok (.if_icmp .le 7, 3) := dq_164 bk_cX7_bitsFrom_0 3 rfl (by decide)
theorem dX7_bitsFrom_6 : decode cX7_bitsFrom 6 = .ok (.iconst 0, 1) := dk_3 (blk_at bk_cX7_bitsFrom_0 6 rfl)
theorem dX7_bitsFrom_7 : decode cX7_bitsFrom 7 = .ok (.goto 6, 3) := dq_167 bk_cX7_bitsFrom_0 7 rfl (by decide)
theorem dX7_bitsFrom_10 : decode cX7_bitsFrom 10 = .ok (.iconst (-1), 1) := dk_2 (blk_at bk_cX7_bitsFrom_0 10 rfl)
theorem dX7_bitsFrom_11 : decode cX7_bitsFrom 11 = .ok (.iload_n 0, 1) := dk_26 (blk_at bk_cX7_bitsFrom_0 11 rfl)
theorem dX7_bitsFrom_12 : decode cX7_bitsFrom 12 = .ok (.ishl, 1) := dk_120 (blk_at bk_cX7_bitsFrom_0 12 rfl)
theorem dX7_bitsFrom_13 : decode cX7_bitsFrom 13 = .ok (.ireturn, 1) := dk_172 (blk_at bk_cX7_bitsFrom_0 13 rfl)
theorem dX8_init_8 : decode cX8_init 8 = .ok (.newarray .int, 2) := by decide +kernel
theorem dX8_init_17 : decode cX8_init 17 = .ok (.newarray .int, 2) := by decide +kernel
theorem dX8_init_34 : decode cX8_init 34 = .ok (.newarray .byte, 2) := by decide +kernel
theorem bk_cX8_init_0 : (cX8_init.data.toList.drop 0).take 40 = [42, 183, 0, 1, 42, 17, 2, 6, 188, 10, 181, 0, 9, 42, 17, 2, 6, 188, 10, 181, 0, 13, 42, 42, 180, 0, 9, 181, 0, 16, 42, 17, 4, 176, 188, 8, 181, 0, 19, 42] := by decide +kernel
theorem dX8_init_0 : decode cX8_init 0 = .ok (.aload_n 0, 1) := dk_42 (blk_at bk_cX8_init_0 0 rfl)
theorem dX8_init_1 : decode cX8_init 1 = .ok (.invokespecial 1, 3) := dq_183 bk_cX8_init_0 1 rfl rfl
theorem dX8_init_4 : decode cX8_init 4 = .ok (.aload_n 0, 1) := dk_42 (blk_at bk_cX8_init_0 4 rfl)
theorem dX8_init_5 : decode cX8_init 5 = .ok (.sipush 518, 3) := dq_17 bk_cX8_init_0 5 rfl (by decide)
theorem dX8_init_10 : decode cX8_init 10 = .ok (.putfield 9, 3) := dq_181 bk_cX8_init_0 10 rfl rfl
theorem dX8_init_13 : decode cX8_init 13 = .ok (.aload_n 0, 1) := dk_42 (blk_at bk_cX8_init_0 13 rfl)
theorem dX8_init_14 : decode cX8_init 14 = .ok (.sipush 518, 3) := dq_17 bk_cX8_init_0 14 rfl (by decide)
theorem dX8_init_19 : decode cX8_init 19 = .ok (.putfield 13, 3) := dq_181 bk_cX8_init_0 19 rfl rfl
theorem dX8_init_22 : decode cX8_init 22 = .ok (.aload_n 0, 1) := dk_42 (blk_at bk_cX8_init_0 22 rfl)
theorem dX8_init_23 : decode cX8_init 23 = .ok (.aload_n 0, 1) := dk_42 (blk_at bk_cX8_init_0 23 rfl)
theorem dX8_init_24 : decode cX8_init 24 = .ok (.getfield 9, 3) := dq_180 bk_cX8_init_0 24 rfl rfl
theorem dX8_init_27 : decode cX8_init 27 = .ok (.putfield 16, 3) := dq_181 bk_cX8_init_0 27 rfl rfl
theorem dX8_init_30 : decode cX8_init 30 = .ok (.aload_n 0, 1) := dk_42 (blk_at bk_cX8_init_0 30 rfl)
theorem dX8_init_31 : decode cX8_init 31 = .ok (.sipush 1200, 3) := dq_17 bk_cX8_init_0 31 rfl (by decide)
theorem dX8_init_36 : decode cX8_init 36 = .ok (.putfield 19, 3) := dq_181 bk_cX8_init_0 36 rfl rfl
theorem dX8_init_39 : decode cX8_init 39 = .ok (.aload_n 0, 1) := dk_42 (blk_at bk_cX8_init_0 39 rfl)
theorem dX8_init_47 : decode cX8_init 47 = .ok (.newarray .int, 2) := by decide +kernel
theorem dX8_init_55 : decode cX8_init 55 = .ok (.newarray .int, 2) := by decide +kernel
theorem dX8_init_63 : decode cX8_init 63 = .ok (.newarray .int, 2) := by decide +kernel
theorem dX8_init_72 : decode cX8_init 72 = .ok (.newarray .int, 2) := by decide +kernel
theorem bk_cX8_init_40 : (cX8_init.data.toList.drop 40).take 38 = [2, 181, 0, 23, 42, 16, 7, 188, 10, 181, 0, 27, 42, 16, 24, 188, 10, 181, 0, 30, 42, 16, 24, 188, 10, 181, 0, 33, 42, 17, 20, 60, 188, 10, 181, 0, 36, 42] := by decide +kernel
theorem dX8_init_40 : decode cX8_init 40 = .ok (.iconst (-1), 1) := dk_2 (blk_at bk_cX8_init_40 0 rfl)
theorem dX8_init_41 : decode cX8_init 41 = .ok (.putfield 23, 3) := dq_181 bk_cX8_init_40 1 rfl rfl
theorem dX8_init_44 : decode cX8_init 44 = .ok (.aload_n 0, 1) := dk_42 (blk_at bk_cX8_init_40 4 rfl)
theorem dX8_init_45 : decode cX8_init 45 = .ok (.bipush 7, 2) := dq_16 bk_cX8_init_40 5 rfl (by decide)
theorem dX8_init_49 : decode cX8_init 49 = .ok (.putfield 27, 3) := dq_181 bk_cX8_init_40 9 rfl rfl
theorem dX8_init_52 : decode cX8_init 52 = .ok (.aload_n 0, 1) := dk_42 (blk_at bk_cX8_init_40 12 rfl)
theorem dX8_init_53 : decode cX8_init 53 = .ok (.bipush 24, 2) := dq_16 bk_cX8_init_40 13 rfl (by decide)
theorem dX8_init_57 : decode cX8_init 57 = .ok (.putfield 30, 3) := dq_181 bk_cX8_init_40 17 rfl rfl
theorem dX8_init_60 : decode cX8_init 60 = .ok (.aload_n 0, 1) := dk_42 (blk_at bk_cX8_init_40 20 rfl)
theorem dX8_init_61 : decode cX8_init 61 = .ok (.bipush 24, 2) := dq_16 bk_cX8_init_40 21 rfl (by decide)
theorem dX8_init_65 : decode cX8_init 65 = .ok (.putfield 33, 3) := dq_181 bk_cX8_init_40 25 rfl rfl
theorem dX8_init_68 : decode cX8_init 68 = .ok (.aload_n 0, 1) := dk_42 (blk_at bk_cX8_init_40 28 rfl)
theorem dX8_init_69 : decode cX8_init 69 = .ok (.sipush 5180, 3) := dq_17 bk_cX8_init_40 29 rfl (by decide)
theorem dX8_init_74 : decode cX8_init 74 = .ok (.putfield 36, 3) := dq_181 bk_cX8_init_40 34 rfl rfl
theorem dX8_init_77 : decode cX8_init 77 = .ok (.aload_n 0, 1) := dk_42 (blk_at bk_cX8_init_40 37 rfl)
theorem dX8_init_81 : decode cX8_init 81 = .ok (.newarray .byte, 2) := by decide +kernel
theorem bk_cX8_init_78 : (cX8_init.data.toList.drop 78).take 9 = [17, 11, 184, 188, 8, 181, 0, 39, 177] := by decide +kernel
theorem dX8_init_78 : decode cX8_init 78 = .ok (.sipush 3000, 3) := dq_17 bk_cX8_init_78 0 rfl (by decide)
theorem dX8_init_83 : decode cX8_init 83 = .ok (.putfield 39, 3) := dq_181 bk_cX8_init_78 5 rfl rfl
theorem dX8_init_86 : decode cX8_init 86 = .ok (.return_, 1) := dk_177 (blk_at bk_cX8_init_78 8 rfl)
theorem bk_cX8_in_0 : (cX8_in.data.toList.drop 0).take 19 = [30, 32, 148, 155, 0, 14, 30, 22, 4, 148, 157, 0, 7, 4, 167, 0, 4, 3, 172] := by decide +kernel
theorem dX8_in_0 : decode cX8_in 0 = .ok (.lload_n 0, 1) := dk_30 (blk_at bk_cX8_in_0 0 rfl)
theorem dX8_in_1 : decode cX8_in 1 = .ok (.lload_n 2, 1) := dk_32 (blk_at bk_cX8_in_0 1 rfl)
theorem dX8_in_2 : decode cX8_in 2 = .ok (.lcmp, 1) := dk_148 (blk_at bk_cX8_in_0 2 rfl)
theorem dX8_in_3 : decode cX8_in 3 = .ok (.ifCond .lt 14, 3) := dq_155 bk_cX8_in_0 3 rfl (by decide)
theorem dX8_in_6 : decode cX8_in 6 = .ok (.lload_n 0, 1) := dk_30 (blk_at bk_cX8_in_0 6 rfl)
theorem dX8_in_7 : decode cX8_in 7 = .ok (.lload 4, 2) := dq_22 bk_cX8_in_0 7 rfl rfl
theorem dX8_in_9 : decode cX8_in 9 = .ok (.lcmp, 1) := dk_148 (blk_at bk_cX8_in_0 9 rfl)
theorem dX8_in_10 : decode cX8_in 10 = .ok (.ifCond .gt 7, 3) := dq_157 bk_cX8_in_0 10 rfl (by decide)
theorem dX8_in_13 : decode cX8_in 13 = .ok (.iconst 1, 1) := dk_4 (blk_at bk_cX8_in_0 13 rfl)
theorem dX8_in_14 : decode cX8_in 14 = .ok (.goto 4, 3) := dq_167 bk_cX8_in_0 14 rfl (by decide)
theorem dX8_in_17 : decode cX8_in 17 = .ok (.iconst 0, 1) := dk_3 (blk_at bk_cX8_in_0 17 rfl)
theorem dX8_in_18 : decode cX8_in 18 = .ok (.ireturn, 1) := dk_172 (blk_at bk_cX8_in_0 18 rfl)
theorem bk_cX8_has_0 : (cX8_has.data.toList.drop 0).take 15 = [26, 27, 122, 4, 126, 4, 160, 0, 7, 4, 167, 0, 4, 3, 172] := by decide +kernel
theorem dX8_has_0 : decode cX8_has 0 = .ok (.iload_n 0, 1) := dk_26 (blk_at bk_cX8_has_0 0 rfl)
theorem dX8_has_1 : decode cX8_has 1 = .ok (.iload_n 1, 1) := dk_27 (blk_at bk_cX8_has_0 1 rfl)
theorem dX8_has_2 : decode cX8_has 2 = .ok (.ishr, 1) := dk_122 (blk_at bk_cX8_has_0 2 rfl)
theorem dX8_has_3 : decode cX8_has 3 = .ok (.iconst 1, 1) := dk_4 (blk_at bk_cX8_has_0 3 rfl)
theorem dX8_has_4 : decode cX8_has 4 = .ok (.iand, 1) := dk_126 (blk_at bk_cX8_has_0 4 rfl)
theorem dX8_has_5 : decode cX8_has 5 = .ok (.iconst 1, 1) := dk_4 (blk_at bk_cX8_has_0 5 rfl)
theorem dX8_has_6 : decode cX8_has 6 = .ok (.if_icmp .ne 7, 3) := dq_160 bk_cX8_has_0 6 rfl (by decide)
theorem dX8_has_9 : decode cX8_has 9 = .ok (.iconst 1, 1) := dk_4 (blk_at bk_cX8_has_0 9 rfl)
theorem dX8_has_10 : decode cX8_has 10 = .ok (.goto 4, 3) := dq_167 bk_cX8_has_0 10 rfl (by decide)
theorem dX8_has_13 : decode cX8_has 13 = .ok (.iconst 0, 1) := dk_3 (blk_at bk_cX8_has_0 13 rfl)
theorem dX8_has_14 : decode cX8_has 14 = .ok (.ireturn, 1) := dk_172 (blk_at bk_cX8_has_0 14 rfl)
theorem bk_cX8_bits_0 : (cX8_bits.data.toList.drop 0).take 22 = [3, 60, 26, 61, 28, 153, 0, 15, 132, 1, 1, 28, 28, 4, 100, 126, 61, 167, 255, 243, 27, 172] := by decide +kernel
theorem dX8_bits_0 : decode cX8_bits 0 = .ok (.iconst 0, 1) := dk_3 (blk_at bk_cX8_bits_0 0 rfl)
theorem dX8_bits_1 : decode cX8_bits 1 = .ok (.istore_n 1, 1) := dk_60 (blk_at bk_cX8_bits_0 1 rfl)
theorem dX8_bits_2 : decode cX8_bits 2 = .ok (.iload_n 0, 1) := dk_26 (blk_at bk_cX8_bits_0 2 rfl)
theorem dX8_bits_3 : decode cX8_bits 3 = .ok (.istore_n 2, 1) := dk_61 (blk_at bk_cX8_bits_0 3 rfl)
theorem dX8_bits_4 : decode cX8_bits 4 = .ok (.iload_n 2, 1) := dk_28 (blk_at bk_cX8_bits_0 4 rfl)
theorem dX8_bits_5 : decode cX8_bits 5 = .ok (.ifCond .eq 15, 3) := dq_153 bk_cX8_bits_0 5 rfl (by decide)
theorem dX8_bits_8 : decode cX8_bits 8 = .ok (.iinc 1 1, 3) := dq_132 bk_cX8_bits_0 8 rfl rfl (by decide)
theorem dX8_bits_11 : decode cX8_bits 11 = .ok (.iload_n 2, 1) := dk_28 (blk_at bk_cX8_bits_0 11 rfl)
theorem dX8_bits_12 : decode cX8_bits 12 = .ok (.iload_n 2, 1) := dk_28 (blk_at bk_cX8_bits_0 12 rfl)
theorem dX8_bits_13 : decode cX8_bits 13 = .ok (.iconst 1, 1) := dk_4 (blk_at bk_cX8_bits_0 13 rfl)
theorem dX8_bits_14 : decode cX8_bits 14 = .ok (.isub, 1) := dk_100 (blk_at bk_cX8_bits_0 14 rfl)
theorem dX8_bits_15 : decode cX8_bits 15 = .ok (.iand, 1) := dk_126 (blk_at bk_cX8_bits_0 15 rfl)
theorem dX8_bits_16 : decode cX8_bits 16 = .ok (.istore_n 2, 1) := dk_61 (blk_at bk_cX8_bits_0 16 rfl)
theorem dX8_bits_17 : decode cX8_bits 17 = .ok (.goto (-13), 3) := dq_167 bk_cX8_bits_0 17 rfl (by decide)
theorem dX8_bits_20 : decode cX8_bits 20 = .ok (.iload_n 1, 1) := dk_27 (blk_at bk_cX8_bits_0 20 rfl)
theorem dX8_bits_21 : decode cX8_bits 21 = .ok (.ireturn, 1) := dk_172 (blk_at bk_cX8_bits_0 21 rfl)
theorem bk_cX8_isThere_0 : (cX8_isThere.data.toList.drop 0).take 15 = [42, 180, 0, 9, 3, 46, 158, 0, 7, 4, 167, 0, 4, 3, 172] := by decide +kernel
theorem dX8_isThere_0 : decode cX8_isThere 0 = .ok (.aload_n 0, 1) := dk_42 (blk_at bk_cX8_isThere_0 0 rfl)
theorem dX8_isThere_1 : decode cX8_isThere 1 = .ok (.getfield 9, 3) := dq_180 bk_cX8_isThere_0 1 rfl rfl
theorem dX8_isThere_4 : decode cX8_isThere 4 = .ok (.iconst 0, 1) := dk_3 (blk_at bk_cX8_isThere_0 4 rfl)
theorem dX8_isThere_5 : decode cX8_isThere 5 = .ok (.iaload, 1) := dk_46 (blk_at bk_cX8_isThere_0 5 rfl)
theorem dX8_isThere_6 : decode cX8_isThere 6 = .ok (.ifCond .le 7, 3) := dq_158 bk_cX8_isThere_0 6 rfl (by decide)
theorem dX8_isThere_9 : decode cX8_isThere 9 = .ok (.iconst 1, 1) := dk_4 (blk_at bk_cX8_isThere_0 9 rfl)
theorem dX8_isThere_10 : decode cX8_isThere 10 = .ok (.goto 4, 3) := dq_167 bk_cX8_isThere_0 10 rfl (by decide)
theorem dX8_isThere_13 : decode cX8_isThere 13 = .ok (.iconst 0, 1) := dk_3 (blk_at bk_cX8_isThere_0 13 rfl)
theorem dX8_isThere_14 : decode cX8_isThere 14 = .ok (.ireturn, 1) := dk_172 (blk_at bk_cX8_isThere_0 14 rfl)
theorem bk_cX8_one_0 : (cX8_one.data.toList.drop 0).take 15 = [42, 180, 0, 16, 16, 62, 16, 12, 27, 104, 96, 28, 96, 46, 172] := by decide +kernel
theorem dX8_one_0 : decode cX8_one 0 = .ok (.aload_n 0, 1) := dk_42 (blk_at bk_cX8_one_0 0 rfl)
theorem dX8_one_1 : decode cX8_one 1 = .ok (.getfield 16, 3) := dq_180 bk_cX8_one_0 1 rfl rfl
theorem dX8_one_4 : decode cX8_one 4 = .ok (.bipush 62, 2) := dq_16 bk_cX8_one_0 4 rfl (by decide)
theorem dX8_one_6 : decode cX8_one 6 = .ok (.bipush 12, 2) := dq_16 bk_cX8_one_0 6 rfl (by decide)
theorem dX8_one_8 : decode cX8_one 8 = .ok (.iload_n 1, 1) := dk_27 (blk_at bk_cX8_one_0 8 rfl)
theorem dX8_one_9 : decode cX8_one 9 = .ok (.imul, 1) := dk_104 (blk_at bk_cX8_one_0 9 rfl)
theorem dX8_one_10 : decode cX8_one 10 = .ok (.iadd, 1) := dk_96 (blk_at bk_cX8_one_0 10 rfl)
theorem dX8_one_11 : decode cX8_one 11 = .ok (.iload_n 2, 1) := dk_28 (blk_at bk_cX8_one_0 11 rfl)
theorem dX8_one_12 : decode cX8_one 12 = .ok (.iadd, 1) := dk_96 (blk_at bk_cX8_one_0 12 rfl)
theorem dX8_one_13 : decode cX8_one 13 = .ok (.iaload, 1) := dk_46 (blk_at bk_cX8_one_0 13 rfl)
theorem dX8_one_14 : decode cX8_one 14 = .ok (.ireturn, 1) := dk_172 (blk_at bk_cX8_one_0 14 rfl)
theorem bk_cX8_lays_0 : (cX8_lays.data.toList.drop 0).take 16 = [42, 180, 0, 16, 16, 62, 16, 12, 27, 104, 96, 28, 96, 29, 79, 177] := by decide +kernel
theorem dX8_lays_0 : decode cX8_lays 0 = .ok (.aload_n 0, 1) := dk_42 (blk_at bk_cX8_lays_0 0 rfl)
theorem dX8_lays_1 : decode cX8_lays 1 = .ok (.getfield 16, 3) := dq_180 bk_cX8_lays_0 1 rfl rfl
theorem dX8_lays_4 : decode cX8_lays 4 = .ok (.bipush 62, 2) := dq_16 bk_cX8_lays_0 4 rfl (by decide)
theorem dX8_lays_6 : decode cX8_lays 6 = .ok (.bipush 12, 2) := dq_16 bk_cX8_lays_0 6 rfl (by decide)
theorem dX8_lays_8 : decode cX8_lays 8 = .ok (.iload_n 1, 1) := dk_27 (blk_at bk_cX8_lays_0 8 rfl)
theorem dX8_lays_9 : decode cX8_lays 9 = .ok (.imul, 1) := dk_104 (blk_at bk_cX8_lays_0 9 rfl)
theorem dX8_lays_10 : decode cX8_lays 10 = .ok (.iadd, 1) := dk_96 (blk_at bk_cX8_lays_0 10 rfl)
theorem dX8_lays_11 : decode cX8_lays 11 = .ok (.iload_n 2, 1) := dk_28 (blk_at bk_cX8_lays_0 11 rfl)
theorem dX8_lays_12 : decode cX8_lays 12 = .ok (.iadd, 1) := dk_96 (blk_at bk_cX8_lays_0 12 rfl)
theorem dX8_lays_13 : decode cX8_lays 13 = .ok (.iload_n 3, 1) := dk_29 (blk_at bk_cX8_lays_0 13 rfl)
theorem dX8_lays_14 : decode cX8_lays 14 = .ok (.iastore, 1) := dk_79 (blk_at bk_cX8_lays_0 14 rfl)
theorem dX8_lays_15 : decode cX8_lays 15 = .ok (.return_, 1) := dk_177 (blk_at bk_cX8_lays_0 15 rfl)
theorem bk_cX8_ask0_0 : (cX8_ask0.data.toList.drop 0).take 16 = [42, 180, 0, 16, 17, 1, 94, 16, 7, 27, 104, 96, 28, 96, 46, 172] := by decide +kernel
theorem dX8_ask0_0 : decode cX8_ask0 0 = .ok (.aload_n 0, 1) := dk_42 (blk_at bk_cX8_ask0_0 0 rfl)
theorem dX8_ask0_1 : decode cX8_ask0 1 = .ok (.getfield 16, 3) := dq_180 bk_cX8_ask0_0 1 rfl rfl
theorem dX8_ask0_4 : decode cX8_ask0 4 = .ok (.sipush 350, 3) := dq_17 bk_cX8_ask0_0 4 rfl (by decide)
theorem dX8_ask0_7 : decode cX8_ask0 7 = .ok (.bipush 7, 2) := dq_16 bk_cX8_ask0_0 7 rfl (by decide)
theorem dX8_ask0_9 : decode cX8_ask0 9 = .ok (.iload_n 1, 1) := dk_27 (blk_at bk_cX8_ask0_0 9 rfl)
theorem dX8_ask0_10 : decode cX8_ask0 10 = .ok (.imul, 1) := dk_104 (blk_at bk_cX8_ask0_0 10 rfl)
theorem dX8_ask0_11 : decode cX8_ask0 11 = .ok (.iadd, 1) := dk_96 (blk_at bk_cX8_ask0_0 11 rfl)
theorem dX8_ask0_12 : decode cX8_ask0 12 = .ok (.iload_n 2, 1) := dk_28 (blk_at bk_cX8_ask0_0 12 rfl)
theorem dX8_ask0_13 : decode cX8_ask0 13 = .ok (.iadd, 1) := dk_96 (blk_at bk_cX8_ask0_0 13 rfl)
theorem dX8_ask0_14 : decode cX8_ask0 14 = .ok (.iaload, 1) := dk_46 (blk_at bk_cX8_ask0_0 14 rfl)
theorem dX8_ask0_15 : decode cX8_ask0 15 = .ok (.ireturn, 1) := dk_172 (blk_at bk_cX8_ask0_0 15 rfl)
theorem bk_cX8_isSeries_0 : (cX8_isSeries.data.toList.drop 0).take 16 = [27, 133, 9, 42, 180, 0, 9, 5, 46, 4, 100, 133, 184, 0, 45, 172] := by decide +kernel
theorem dX8_isSeries_0 : decode cX8_isSeries 0 = .ok (.iload_n 1, 1) := dk_27 (blk_at bk_cX8_isSeries_0 0 rfl)
theorem dX8_isSeries_1 : decode cX8_isSeries 1 = .ok (.i2l, 1) := dk_133 (blk_at bk_cX8_isSeries_0 1 rfl)
theorem dX8_isSeries_2 : decode cX8_isSeries 2 = .ok (.lconst 0, 1) := dk_9 (blk_at bk_cX8_isSeries_0 2 rfl)
theorem dX8_isSeries_3 : decode cX8_isSeries 3 = .ok (.aload_n 0, 1) := dk_42 (blk_at bk_cX8_isSeries_0 3 rfl)
theorem dX8_isSeries_4 : decode cX8_isSeries 4 = .ok (.getfield 9, 3) := dq_180 bk_cX8_isSeries_0 4 rfl rfl
theorem dX8_isSeries_7 : decode cX8_isSeries 7 = .ok (.iconst 2, 1) := dk_5 (blk_at bk_cX8_isSeries_0 7 rfl)
theorem dX8_isSeries_8 : decode cX8_isSeries 8 = .ok (.iaload, 1) := dk_46 (blk_at bk_cX8_isSeries_0 8 rfl)
theorem dX8_isSeries_9 : decode cX8_isSeries 9 = .ok (.iconst 1, 1) := dk_4 (blk_at bk_cX8_isSeries_0 9 rfl)
theorem dX8_isSeries_10 : decode cX8_isSeries 10 = .ok (.isub, 1) := dk_100 (blk_at bk_cX8_isSeries_0 10 rfl)
theorem dX8_isSeries_11 : decode cX8_isSeries 11 = .ok (.i2l, 1) := dk_133 (blk_at bk_cX8_isSeries_0 11 rfl)
theorem dX8_isSeries_12 : decode cX8_isSeries 12 = .ok (.invokestatic 45, 3) := dq_184 bk_cX8_isSeries_0 12 rfl rfl
theorem dX8_isSeries_15 : decode cX8_isSeries 15 = .ok (.ireturn, 1) := dk_172 (blk_at bk_cX8_isSeries_0 15 rfl)
theorem bk_cX8_isAsk_0 : (cX8_isAsk.data.toList.drop 0).take 16 = [27, 133, 9, 42, 180, 0, 9, 6, 46, 4, 100, 133, 184, 0, 45, 172] := by decide +kernel
theorem dX8_isAsk_0 : decode cX8_isAsk 0 = .ok (.iload_n 1, 1) := dk_27 (blk_at bk_cX8_isAsk_0 0 rfl)
theorem dX8_isAsk_1 : decode cX8_isAsk 1 = .ok (.i2l, 1) := dk_133 (blk_at bk_cX8_isAsk_0 1 rfl)
theorem dX8_isAsk_2 : decode cX8_isAsk 2 = .ok (.lconst 0, 1) := dk_9 (blk_at bk_cX8_isAsk_0 2 rfl)
theorem dX8_isAsk_3 : decode cX8_isAsk 3 = .ok (.aload_n 0, 1) := dk_42 (blk_at bk_cX8_isAsk_0 3 rfl)
theorem dX8_isAsk_4 : decode cX8_isAsk 4 = .ok (.getfield 9, 3) := dq_180 bk_cX8_isAsk_0 4 rfl rfl
theorem dX8_isAsk_7 : decode cX8_isAsk 7 = .ok (.iconst 3, 1) := dk_6 (blk_at bk_cX8_isAsk_0 7 rfl)
theorem dX8_isAsk_8 : decode cX8_isAsk 8 = .ok (.iaload, 1) := dk_46 (blk_at bk_cX8_isAsk_0 8 rfl)
theorem dX8_isAsk_9 : decode cX8_isAsk 9 = .ok (.iconst 1, 1) := dk_4 (blk_at bk_cX8_isAsk_0 9 rfl)
theorem dX8_isAsk_10 : decode cX8_isAsk 10 = .ok (.isub, 1) := dk_100 (blk_at bk_cX8_isAsk_0 10 rfl)
theorem dX8_isAsk_11 : decode cX8_isAsk 11 = .ok (.i2l, 1) := dk_133 (blk_at bk_cX8_isAsk_0 11 rfl)
theorem dX8_isAsk_12 : decode cX8_isAsk 12 = .ok (.invokestatic 45, 3) := dq_184 bk_cX8_isAsk_0 12 rfl rfl
theorem dX8_isAsk_15 : decode cX8_isAsk 15 = .ok (.ireturn, 1) := dk_172 (blk_at bk_cX8_isAsk_0 15 rfl)
theorem bk_cX8_isCarrier_0 : (cX8_isCarrier.data.toList.drop 0).take 16 = [27, 133, 9, 42, 180, 0, 9, 4, 46, 4, 100, 133, 184, 0, 45, 172] := by decide +kernel
theorem dX8_isCarrier_0 : decode cX8_isCarrier 0 = .ok (.iload_n 1, 1) := dk_27 (blk_at bk_cX8_isCarrier_0 0 rfl)
theorem dX8_isCarrier_1 : decode cX8_isCarrier 1 = .ok (.i2l, 1) := dk_133 (blk_at bk_cX8_isCarrier_0 1 rfl)
theorem dX8_isCarrier_2 : decode cX8_isCarrier 2 = .ok (.lconst 0, 1) := dk_9 (blk_at bk_cX8_isCarrier_0 2 rfl)
theorem dX8_isCarrier_3 : decode cX8_isCarrier 3 = .ok (.aload_n 0, 1) := dk_42 (blk_at bk_cX8_isCarrier_0 3 rfl)
theorem dX8_isCarrier_4 : decode cX8_isCarrier 4 = .ok (.getfield 9, 3) := dq_180 bk_cX8_isCarrier_0 4 rfl rfl
theorem dX8_isCarrier_7 : decode cX8_isCarrier 7 = .ok (.iconst 1, 1) := dk_4 (blk_at bk_cX8_isCarrier_0 7 rfl)
theorem dX8_isCarrier_8 : decode cX8_isCarrier 8 = .ok (.iaload, 1) := dk_46 (blk_at bk_cX8_isCarrier_0 8 rfl)
theorem dX8_isCarrier_9 : decode cX8_isCarrier 9 = .ok (.iconst 1, 1) := dk_4 (blk_at bk_cX8_isCarrier_0 9 rfl)
theorem dX8_isCarrier_10 : decode cX8_isCarrier 10 = .ok (.isub, 1) := dk_100 (blk_at bk_cX8_isCarrier_0 10 rfl)
theorem dX8_isCarrier_11 : decode cX8_isCarrier 11 = .ok (.i2l, 1) := dk_133 (blk_at bk_cX8_isCarrier_0 11 rfl)
theorem dX8_isCarrier_12 : decode cX8_isCarrier 12 = .ok (.invokestatic 45, 3) := dq_184 bk_cX8_isCarrier_0 12 rfl rfl
theorem dX8_isCarrier_15 : decode cX8_isCarrier 15 = .ok (.ireturn, 1) := dk_172 (blk_at bk_cX8_isCarrier_0 15 rfl)
theorem bk_cX8_isWeek_0 : (cX8_isWeek.data.toList.drop 0).take 16 = [27, 133, 9, 42, 180, 0, 9, 3, 46, 4, 100, 133, 184, 0, 45, 172] := by decide +kernel
theorem dX8_isWeek_0 : decode cX8_isWeek 0 = .ok (.iload_n 1, 1) := dk_27 (blk_at bk_cX8_isWeek_0 0 rfl)
theorem dX8_isWeek_1 : decode cX8_isWeek 1 = .ok (.i2l, 1) := dk_133 (blk_at bk_cX8_isWeek_0 1 rfl)
theorem dX8_isWeek_2 : decode cX8_isWeek 2 = .ok (.lconst 0, 1) := dk_9 (blk_at bk_cX8_isWeek_0 2 rfl)
theorem dX8_isWeek_3 : decode cX8_isWeek 3 = .ok (.aload_n 0, 1) := dk_42 (blk_at bk_cX8_isWeek_0 3 rfl)
theorem dX8_isWeek_4 : decode cX8_isWeek 4 = .ok (.getfield 9, 3) := dq_180 bk_cX8_isWeek_0 4 rfl rfl
theorem dX8_isWeek_7 : decode cX8_isWeek 7 = .ok (.iconst 0, 1) := dk_3 (blk_at bk_cX8_isWeek_0 7 rfl)
theorem dX8_isWeek_8 : decode cX8_isWeek 8 = .ok (.iaload, 1) := dk_46 (blk_at bk_cX8_isWeek_0 8 rfl)
theorem dX8_isWeek_9 : decode cX8_isWeek 9 = .ok (.iconst 1, 1) := dk_4 (blk_at bk_cX8_isWeek_0 9 rfl)
theorem dX8_isWeek_10 : decode cX8_isWeek 10 = .ok (.isub, 1) := dk_100 (blk_at bk_cX8_isWeek_0 10 rfl)
theorem dX8_isWeek_11 : decode cX8_isWeek 11 = .ok (.i2l, 1) := dk_133 (blk_at bk_cX8_isWeek_0 11 rfl)
theorem dX8_isWeek_12 : decode cX8_isWeek 12 = .ok (.invokestatic 45, 3) := dq_184 bk_cX8_isWeek_0 12 rfl rfl
theorem dX8_isWeek_15 : decode cX8_isWeek 15 = .ok (.ireturn, 1) := dk_172 (blk_at bk_cX8_isWeek_0 15 rfl)
theorem bk_cX8_isDay_0 : (cX8_isDay.data.toList.drop 0).take 25 = [42, 182, 0, 49, 153, 0, 19, 27, 133, 9, 20, 0, 53, 184, 0, 45, 153, 0, 7, 4, 167, 0, 4, 3, 172] := by decide +kernel
theorem dX8_isDay_0 : decode cX8_isDay 0 = .ok (.aload_n 0, 1) := dk_42 (blk_at bk_cX8_isDay_0 0 rfl)
theorem dX8_isDay_1 : decode cX8_isDay 1 = .ok (.invokevirtual 49, 3) := dq_182 bk_cX8_isDay_0 1 rfl rfl
theorem dX8_isDay_4 : decode cX8_isDay 4 = .ok (.ifCond .eq 19, 3) := dq_153 bk_cX8_isDay_0 4 rfl (by decide)
theorem dX8_isDay_7 : decode cX8_isDay 7 = .ok (.iload_n 1, 1) := dk_27 (blk_at bk_cX8_isDay_0 7 rfl)
theorem dX8_isDay_8 : decode cX8_isDay 8 = .ok (.i2l, 1) := dk_133 (blk_at bk_cX8_isDay_0 8 rfl)
theorem dX8_isDay_9 : decode cX8_isDay 9 = .ok (.lconst 0, 1) := dk_9 (blk_at bk_cX8_isDay_0 9 rfl)
theorem dX8_isDay_10 : decode cX8_isDay 10 = .ok (.ldc2_w 53, 3) := dq_20 bk_cX8_isDay_0 10 rfl rfl
theorem dX8_isDay_13 : decode cX8_isDay 13 = .ok (.invokestatic 45, 3) := dq_184 bk_cX8_isDay_0 13 rfl rfl
theorem dX8_isDay_16 : decode cX8_isDay 16 = .ok (.ifCond .eq 7, 3) := dq_153 bk_cX8_isDay_0 16 rfl (by decide)
theorem dX8_isDay_19 : decode cX8_isDay 19 = .ok (.iconst 1, 1) := dk_4 (blk_at bk_cX8_isDay_0 19 rfl)
theorem dX8_isDay_20 : decode cX8_isDay 20 = .ok (.goto 4, 3) := dq_167 bk_cX8_isDay_0 20 rfl (by decide)
theorem dX8_isDay_23 : decode cX8_isDay 23 = .ok (.iconst 0, 1) := dk_3 (blk_at bk_cX8_isDay_0 23 rfl)
theorem dX8_isDay_24 : decode cX8_isDay 24 = .ok (.ireturn, 1) := dk_172 (blk_at bk_cX8_isDay_0 24 rfl)
theorem bk_cX8_isHour_0 : (cX8_isHour.data.toList.drop 0).take 25 = [42, 182, 0, 49, 153, 0, 19, 27, 133, 9, 20, 0, 55, 184, 0, 45, 153, 0, 7, 4, 167, 0, 4, 3, 172] := by decide +kernel
theorem dX8_isHour_0 : decode cX8_isHour 0 = .ok (.aload_n 0, 1) := dk_42 (blk_at bk_cX8_isHour_0 0 rfl)
theorem dX8_isHour_1 : decode cX8_isHour 1 = .ok (.invokevirtual 49, 3) := dq_182 bk_cX8_isHour_0 1 rfl rfl
theorem dX8_isHour_4 : decode cX8_isHour 4 = .ok (.ifCond .eq 19, 3) := dq_153 bk_cX8_isHour_0 4 rfl (by decide)
theorem dX8_isHour_7 : decode cX8_isHour 7 = .ok (.iload_n 1, 1) := dk_27 (blk_at bk_cX8_isHour_0 7 rfl)
theorem dX8_isHour_8 : decode cX8_isHour 8 = .ok (.i2l, 1) := dk_133 (blk_at bk_cX8_isHour_0 8 rfl)
theorem dX8_isHour_9 : decode cX8_isHour 9 = .ok (.lconst 0, 1) := dk_9 (blk_at bk_cX8_isHour_0 9 rfl)
theorem dX8_isHour_10 : decode cX8_isHour 10 = .ok (.ldc2_w 55, 3) := dq_20 bk_cX8_isHour_0 10 rfl rfl
theorem dX8_isHour_13 : decode cX8_isHour 13 = .ok (.invokestatic 45, 3) := dq_184 bk_cX8_isHour_0 13 rfl rfl
theorem dX8_isHour_16 : decode cX8_isHour 16 = .ok (.ifCond .eq 7, 3) := dq_153 bk_cX8_isHour_0 16 rfl (by decide)
theorem dX8_isHour_19 : decode cX8_isHour 19 = .ok (.iconst 1, 1) := dk_4 (blk_at bk_cX8_isHour_0 19 rfl)
theorem dX8_isHour_20 : decode cX8_isHour 20 = .ok (.goto 4, 3) := dq_167 bk_cX8_isHour_0 20 rfl (by decide)
theorem dX8_isHour_23 : decode cX8_isHour 23 = .ok (.iconst 0, 1) := dk_3 (blk_at bk_cX8_isHour_0 23 rfl)
theorem dX8_isHour_24 : decode cX8_isHour 24 = .ok (.ireturn, 1) := dk_172 (blk_at bk_cX8_isHour_0 24 rfl)
