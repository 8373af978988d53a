theorem bk_cX8_isPlace_0 : (cX8_isPlace.data.toList.drop 0).take 30 = [42, 27, 182, 0, 57, 153, 0, 23, 42, 28, 182, 0, 61, 153, 0, 15, 42, 29, 182, 0, 64, 153, 0, 7, 4, 167, 0, 4, 3, 172] := by decide +kernel
theorem dX8_isPlace_0 : decode cX8_isPlace 0 = .ok (.aload_n 0, 1) := dk_42 (blk_at bk_cX8_isPlace_0 0 rfl)
theorem dX8_isPlace_1 : decode cX8_isPlace 1 = .ok (.iload_n 1, 1) := dk_27 (blk_at bk_cX8_isPlace_0 1 rfl)
theorem dX8_isPlace_2 : decode cX8_isPlace 2 = .ok (.invokevirtual 57, 3) := dq_182 bk_cX8_isPlace_0 2 rfl rfl
theorem dX8_isPlace_5 : decode cX8_isPlace 5 = .ok (.ifCond .eq 23, 3) := dq_153 bk_cX8_isPlace_0 5 rfl (by decide)
theorem dX8_isPlace_8 : decode cX8_isPlace 8 = .ok (.aload_n 0, 1) := dk_42 (blk_at bk_cX8_isPlace_0 8 rfl)
theorem dX8_isPlace_9 : decode cX8_isPlace 9 = .ok (.iload_n 2, 1) := dk_28 (blk_at bk_cX8_isPlace_0 9 rfl)
theorem dX8_isPlace_10 : decode cX8_isPlace 10 = .ok (.invokevirtual 61, 3) := dq_182 bk_cX8_isPlace_0 10 rfl rfl
theorem dX8_isPlace_13 : decode cX8_isPlace 13 = .ok (.ifCond .eq 15, 3) := dq_153 bk_cX8_isPlace_0 13 rfl (by decide)
theorem dX8_isPlace_16 : decode cX8_isPlace 16 = .ok (.aload_n 0, 1) := dk_42 (blk_at bk_cX8_isPlace_0 16 rfl)
theorem dX8_isPlace_17 : decode cX8_isPlace 17 = .ok (.iload_n 3, 1) := dk_29 (blk_at bk_cX8_isPlace_0 17 rfl)
theorem dX8_isPlace_18 : decode cX8_isPlace 18 = .ok (.invokevirtual 64, 3) := dq_182 bk_cX8_isPlace_0 18 rfl rfl
theorem dX8_isPlace_21 : decode cX8_isPlace 21 = .ok (.ifCond .eq 7, 3) := dq_153 bk_cX8_isPlace_0 21 rfl (by decide)
theorem dX8_isPlace_24 : decode cX8_isPlace 24 = .ok (.iconst 1, 1) := dk_4 (blk_at bk_cX8_isPlace_0 24 rfl)
theorem dX8_isPlace_25 : decode cX8_isPlace 25 = .ok (.goto 4, 3) := dq_167 bk_cX8_isPlace_0 25 rfl (by decide)
theorem dX8_isPlace_28 : decode cX8_isPlace 28 = .ok (.iconst 0, 1) := dk_3 (blk_at bk_cX8_isPlace_0 28 rfl)
theorem dX8_isPlace_29 : decode cX8_isPlace 29 = .ok (.ireturn, 1) := dk_172 (blk_at bk_cX8_isPlace_0 29 rfl)
theorem bk_cX8_basisOf_0 : (cX8_basisOf.data.toList.drop 0).take 32 = [42, 27, 16, 7, 182, 0, 67, 42, 27, 16, 8, 182, 0, 67, 128, 42, 27, 16, 9, 182, 0, 67, 128, 42, 27, 16, 10, 182, 0, 67, 128, 172] := by decide +kernel
theorem dX8_basisOf_0 : decode cX8_basisOf 0 = .ok (.aload_n 0, 1) := dk_42 (blk_at bk_cX8_basisOf_0 0 rfl)
theorem dX8_basisOf_1 : decode cX8_basisOf 1 = .ok (.iload_n 1, 1) := dk_27 (blk_at bk_cX8_basisOf_0 1 rfl)
theorem dX8_basisOf_2 : decode cX8_basisOf 2 = .ok (.bipush 7, 2) := dq_16 bk_cX8_basisOf_0 2 rfl (by decide)
theorem dX8_basisOf_4 : decode cX8_basisOf 4 = .ok (.invokevirtual 67, 3) := dq_182 bk_cX8_basisOf_0 4 rfl rfl
theorem dX8_basisOf_7 : decode cX8_basisOf 7 = .ok (.aload_n 0, 1) := dk_42 (blk_at bk_cX8_basisOf_0 7 rfl)
theorem dX8_basisOf_8 : decode cX8_basisOf 8 = .ok (.iload_n 1, 1) := dk_27 (blk_at bk_cX8_basisOf_0 8 rfl)
theorem dX8_basisOf_9 : decode cX8_basisOf 9 = .ok (.bipush 8, 2) := dq_16 bk_cX8_basisOf_0 9 rfl (by decide)
theorem dX8_basisOf_11 : decode cX8_basisOf 11 = .ok (.invokevirtual 67, 3) := dq_182 bk_cX8_basisOf_0 11 rfl rfl
theorem dX8_basisOf_14 : decode cX8_basisOf 14 = .ok (.ior, 1) := dk_128 (blk_at bk_cX8_basisOf_0 14 rfl)
theorem dX8_basisOf_15 : decode cX8_basisOf 15 = .ok (.aload_n 0, 1) := dk_42 (blk_at bk_cX8_basisOf_0 15 rfl)
theorem dX8_basisOf_16 : decode cX8_basisOf 16 = .ok (.iload_n 1, 1) := dk_27 (blk_at bk_cX8_basisOf_0 16 rfl)
theorem dX8_basisOf_17 : decode cX8_basisOf 17 = .ok (.bipush 9, 2) := dq_16 bk_cX8_basisOf_0 17 rfl (by decide)
theorem dX8_basisOf_19 : decode cX8_basisOf 19 = .ok (.invokevirtual 67, 3) := dq_182 bk_cX8_basisOf_0 19 rfl rfl
theorem dX8_basisOf_22 : decode cX8_basisOf 22 = .ok (.ior, 1) := dk_128 (blk_at bk_cX8_basisOf_0 22 rfl)
theorem dX8_basisOf_23 : decode cX8_basisOf 23 = .ok (.aload_n 0, 1) := dk_42 (blk_at bk_cX8_basisOf_0 23 rfl)
theorem dX8_basisOf_24 : decode cX8_basisOf 24 = .ok (.iload_n 1, 1) := dk_27 (blk_at bk_cX8_basisOf_0 24 rfl)
theorem dX8_basisOf_25 : decode cX8_basisOf 25 = .ok (.bipush 10, 2) := dq_16 bk_cX8_basisOf_0 25 rfl (by decide)
theorem dX8_basisOf_27 : decode cX8_basisOf 27 = .ok (.invokevirtual 67, 3) := dq_182 bk_cX8_basisOf_0 27 rfl rfl
theorem dX8_basisOf_30 : decode cX8_basisOf 30 = .ok (.ior, 1) := dk_128 (blk_at bk_cX8_basisOf_0 30 rfl)
theorem dX8_basisOf_31 : decode cX8_basisOf 31 = .ok (.ireturn, 1) := dk_172 (blk_at bk_cX8_basisOf_0 31 rfl)
theorem bk_cX8_loadBut_0 : (cX8_loadBut.data.toList.drop 0).take 39 = [3, 54, 6, 3, 54, 7, 21, 7, 42, 180, 0, 16, 5, 46, 162, 0, 83, 21, 7, 21, 5, 159, 0, 70, 42, 21, 7, 4, 182, 0, 67, 28, 160, 0, 59, 42, 21, 7, 5] := by decide +kernel
theorem dX8_loadBut_0 : decode cX8_loadBut 0 = .ok (.iconst 0, 1) := dk_3 (blk_at bk_cX8_loadBut_0 0 rfl)
theorem dX8_loadBut_1 : decode cX8_loadBut 1 = .ok (.istore 6, 2) := dq_54 bk_cX8_loadBut_0 1 rfl rfl
theorem dX8_loadBut_3 : decode cX8_loadBut 3 = .ok (.iconst 0, 1) := dk_3 (blk_at bk_cX8_loadBut_0 3 rfl)
theorem dX8_loadBut_4 : decode cX8_loadBut 4 = .ok (.istore 7, 2) := dq_54 bk_cX8_loadBut_0 4 rfl rfl
theorem dX8_loadBut_6 : decode cX8_loadBut 6 = .ok (.iload 7, 2) := dq_21 bk_cX8_loadBut_0 6 rfl rfl
theorem dX8_loadBut_8 : decode cX8_loadBut 8 = .ok (.aload_n 0, 1) := dk_42 (blk_at bk_cX8_loadBut_0 8 rfl)
theorem dX8_loadBut_9 : decode cX8_loadBut 9 = .ok (.getfield 16, 3) := dq_180 bk_cX8_loadBut_0 9 rfl rfl
theorem dX8_loadBut_12 : decode cX8_loadBut 12 = .ok (.iconst 2, 1) := dk_5 (blk_at bk_cX8_loadBut_0 12 rfl)
theorem dX8_loadBut_13 : decode cX8_loadBut 13 = .ok (.iaload, 1) := dk_46 (blk_at bk_cX8_loadBut_0 13 rfl)
theorem dX8_loadBut_14 : decode cX8_loadBut 14 = .ok (.if_icmp .ge 83, 3) := dq_162 bk_cX8_loadBut_0 14 rfl (by decide)
theorem dX8_loadBut_17 : decode cX8_loadBut 17 = .ok (.iload 7, 2) := dq_21 bk_cX8_loadBut_0 17 rfl rfl
theorem dX8_loadBut_19 : decode cX8_loadBut 19 = .ok (.iload 5, 2) := dq_21 bk_cX8_loadBut_0 19 rfl rfl
theorem dX8_loadBut_21 : decode cX8_loadBut 21 = .ok (.if_icmp .eq 70, 3) := dq_159 bk_cX8_loadBut_0 21 rfl (by decide)
theorem dX8_loadBut_24 : decode cX8_loadBut 24 = .ok (.aload_n 0, 1) := dk_42 (blk_at bk_cX8_loadBut_0 24 rfl)
theorem dX8_loadBut_25 : decode cX8_loadBut 25 = .ok (.iload 7, 2) := dq_21 bk_cX8_loadBut_0 25 rfl rfl
theorem dX8_loadBut_27 : decode cX8_loadBut 27 = .ok (.iconst 1, 1) := dk_4 (blk_at bk_cX8_loadBut_0 27 rfl)
theorem dX8_loadBut_28 : decode cX8_loadBut 28 = .ok (.invokevirtual 67, 3) := dq_182 bk_cX8_loadBut_0 28 rfl rfl
theorem dX8_loadBut_31 : decode cX8_loadBut 31 = .ok (.iload_n 2, 1) := dk_28 (blk_at bk_cX8_loadBut_0 31 rfl)
theorem dX8_loadBut_32 : decode cX8_loadBut 32 = .ok (.if_icmp .ne 59, 3) := dq_160 bk_cX8_loadBut_0 32 rfl (by decide)
theorem dX8_loadBut_35 : decode cX8_loadBut 35 = .ok (.aload_n 0, 1) := dk_42 (blk_at bk_cX8_loadBut_0 35 rfl)
theorem dX8_loadBut_36 : decode cX8_loadBut 36 = .ok (.iload 7, 2) := dq_21 bk_cX8_loadBut_0 36 rfl rfl
theorem dX8_loadBut_38 : decode cX8_loadBut 38 = .ok (.iconst 2, 1) := dk_5 (blk_at bk_cX8_loadBut_0 38 rfl)
theorem bk_cX8_loadBut_39 : (cX8_loadBut.data.toList.drop 39).take 38 = [182, 0, 67, 29, 160, 0, 48, 21, 4, 158, 0, 20, 42, 21, 7, 6, 182, 0, 67, 21, 4, 4, 100, 159, 0, 6, 167, 0, 26, 21, 6, 42, 21, 7, 182, 0, 71, 27] := by decide +kernel
theorem dX8_loadBut_39 : decode cX8_loadBut 39 = .ok (.invokevirtual 67, 3) := dq_182 bk_cX8_loadBut_39 0 rfl rfl
theorem dX8_loadBut_42 : decode cX8_loadBut 42 = .ok (.iload_n 3, 1) := dk_29 (blk_at bk_cX8_loadBut_39 3 rfl)
theorem dX8_loadBut_43 : decode cX8_loadBut 43 = .ok (.if_icmp .ne 48, 3) := dq_160 bk_cX8_loadBut_39 4 rfl (by decide)
theorem dX8_loadBut_46 : decode cX8_loadBut 46 = .ok (.iload 4, 2) := dq_21 bk_cX8_loadBut_39 7 rfl rfl
theorem dX8_loadBut_48 : decode cX8_loadBut 48 = .ok (.ifCond .le 20, 3) := dq_158 bk_cX8_loadBut_39 9 rfl (by decide)
theorem dX8_loadBut_51 : decode cX8_loadBut 51 = .ok (.aload_n 0, 1) := dk_42 (blk_at bk_cX8_loadBut_39 12 rfl)
theorem dX8_loadBut_52 : decode cX8_loadBut 52 = .ok (.iload 7, 2) := dq_21 bk_cX8_loadBut_39 13 rfl rfl
theorem dX8_loadBut_54 : decode cX8_loadBut 54 = .ok (.iconst 3, 1) := dk_6 (blk_at bk_cX8_loadBut_39 15 rfl)
theorem dX8_loadBut_55 : decode cX8_loadBut 55 = .ok (.invokevirtual 67, 3) := dq_182 bk_cX8_loadBut_39 16 rfl rfl
theorem dX8_loadBut_58 : decode cX8_loadBut 58 = .ok (.iload 4, 2) := dq_21 bk_cX8_loadBut_39 19 rfl rfl
theorem dX8_loadBut_60 : decode cX8_loadBut 60 = .ok (.iconst 1, 1) := dk_4 (blk_at bk_cX8_loadBut_39 21 rfl)
theorem dX8_loadBut_61 : decode cX8_loadBut 61 = .ok (.isub, 1) := dk_100 (blk_at bk_cX8_loadBut_39 22 rfl)
theorem dX8_loadBut_62 : decode cX8_loadBut 62 = .ok (.if_icmp .eq 6, 3) := dq_159 bk_cX8_loadBut_39 23 rfl (by decide)
theorem dX8_loadBut_65 : decode cX8_loadBut 65 = .ok (.goto 26, 3) := dq_167 bk_cX8_loadBut_39 26 rfl (by decide)
theorem dX8_loadBut_68 : decode cX8_loadBut 68 = .ok (.iload 6, 2) := dq_21 bk_cX8_loadBut_39 29 rfl rfl
theorem dX8_loadBut_70 : decode cX8_loadBut 70 = .ok (.aload_n 0, 1) := dk_42 (blk_at bk_cX8_loadBut_39 31 rfl)
theorem dX8_loadBut_71 : decode cX8_loadBut 71 = .ok (.iload 7, 2) := dq_21 bk_cX8_loadBut_39 32 rfl rfl
theorem dX8_loadBut_73 : decode cX8_loadBut 73 = .ok (.invokevirtual 71, 3) := dq_182 bk_cX8_loadBut_39 34 rfl rfl
theorem dX8_loadBut_76 : decode cX8_loadBut 76 = .ok (.iload_n 1, 1) := dk_27 (blk_at bk_cX8_loadBut_39 37 rfl)
theorem bk_cX8_loadBut_77 : (cX8_loadBut.data.toList.drop 77).take 23 = [184, 0, 75, 153, 0, 7, 4, 167, 0, 4, 3, 96, 54, 6, 132, 7, 1, 167, 255, 168, 21, 6, 172] := by decide +kernel
theorem dX8_loadBut_77 : decode cX8_loadBut 77 = .ok (.invokestatic 75, 3) := dq_184 bk_cX8_loadBut_77 0 rfl rfl
theorem dX8_loadBut_80 : decode cX8_loadBut 80 = .ok (.ifCond .eq 7, 3) := dq_153 bk_cX8_loadBut_77 3 rfl (by decide)
theorem dX8_loadBut_83 : decode cX8_loadBut 83 = .ok (.iconst 1, 1) := dk_4 (blk_at bk_cX8_loadBut_77 6 rfl)
theorem dX8_loadBut_84 : decode cX8_loadBut 84 = .ok (.goto 4, 3) := dq_167 bk_cX8_loadBut_77 7 rfl (by decide)
theorem dX8_loadBut_87 : decode cX8_loadBut 87 = .ok (.iconst 0, 1) := dk_3 (blk_at bk_cX8_loadBut_77 10 rfl)
theorem dX8_loadBut_88 : decode cX8_loadBut 88 = .ok (.iadd, 1) := dk_96 (blk_at bk_cX8_loadBut_77 11 rfl)
theorem dX8_loadBut_89 : decode cX8_loadBut 89 = .ok (.istore 6, 2) := dq_54 bk_cX8_loadBut_77 12 rfl rfl
theorem dX8_loadBut_91 : decode cX8_loadBut 91 = .ok (.iinc 7 1, 3) := dq_132 bk_cX8_loadBut_77 14 rfl rfl (by decide)
theorem dX8_loadBut_94 : decode cX8_loadBut 94 = .ok (.goto (-88), 3) := dq_167 bk_cX8_loadBut_77 17 rfl (by decide)
theorem dX8_loadBut_97 : decode cX8_loadBut 97 = .ok (.iload 6, 2) := dq_21 bk_cX8_loadBut_77 20 rfl rfl
theorem dX8_loadBut_99 : decode cX8_loadBut 99 = .ok (.ireturn, 1) := dk_172 (blk_at bk_cX8_loadBut_77 22 rfl)
theorem bk_cX8_span_0 : (cX8_span.data.toList.drop 0).take 20 = [26, 27, 164, 0, 7, 3, 167, 0, 13, 10, 27, 4, 96, 121, 10, 26, 121, 101, 136, 172] := by decide +kernel
theorem dX8_span_0 : decode cX8_span 0 = .ok (.iload_n 0, 1) := dk_26 (blk_at bk_cX8_span_0 0 rfl)
theorem dX8_span_1 : decode cX8_span 1 = .ok (.iload_n 1, 1) := dk_27 (blk_at bk_cX8_span_0 1 rfl)
theorem dX8_span_2 : decode cX8_span 2 = .ok (.if_icmp .le 7, 3) := dq_164 bk_cX8_span_0 2 rfl (by decide)
theorem dX8_span_5 : decode cX8_span 5 = .ok (.iconst 0, 1) := dk_3 (blk_at bk_cX8_span_0 5 rfl)
theorem dX8_span_6 : decode cX8_span 6 = .ok (.goto 13, 3) := dq_167 bk_cX8_span_0 6 rfl (by decide)
theorem dX8_span_9 : decode cX8_span 9 = .ok (.lconst 1, 1) := dk_10 (blk_at bk_cX8_span_0 9 rfl)
theorem dX8_span_10 : decode cX8_span 10 = .ok (.iload_n 1, 1) := dk_27 (blk_at bk_cX8_span_0 10 rfl)
theorem dX8_span_11 : decode cX8_span 11 = .ok (.iconst 1, 1) := dk_4 (blk_at bk_cX8_span_0 11 rfl)
theorem dX8_span_12 : decode cX8_span 12 = .ok (.iadd, 1) := dk_96 (blk_at bk_cX8_span_0 12 rfl)
theorem dX8_span_13 : decode cX8_span 13 = .ok (.lshl, 1) := dk_121 (blk_at bk_cX8_span_0 13 rfl)
theorem dX8_span_14 : decode cX8_span 14 = .ok (.lconst 1, 1) := dk_10 (blk_at bk_cX8_span_0 14 rfl)
theorem dX8_span_15 : decode cX8_span 15 = .ok (.iload_n 0, 1) := dk_26 (blk_at bk_cX8_span_0 15 rfl)
theorem dX8_span_16 : decode cX8_span 16 = .ok (.lshl, 1) := dk_121 (blk_at bk_cX8_span_0 16 rfl)
theorem dX8_span_17 : decode cX8_span 17 = .ok (.lsub, 1) := dk_101 (blk_at bk_cX8_span_0 17 rfl)
theorem dX8_span_18 : decode cX8_span 18 = .ok (.l2i, 1) := dk_136 (blk_at bk_cX8_span_0 18 rfl)
theorem dX8_span_19 : decode cX8_span 19 = .ok (.ireturn, 1) := dk_172 (blk_at bk_cX8_span_0 19 rfl)
theorem bk_cX8_fromNow_0 : (cX8_fromNow.data.toList.drop 0).take 18 = [42, 180, 0, 16, 7, 46, 42, 180, 0, 16, 3, 46, 4, 100, 184, 0, 79, 172] := by decide +kernel
theorem dX8_fromNow_0 : decode cX8_fromNow 0 = .ok (.aload_n 0, 1) := dk_42 (blk_at bk_cX8_fromNow_0 0 rfl)
theorem dX8_fromNow_1 : decode cX8_fromNow 1 = .ok (.getfield 16, 3) := dq_180 bk_cX8_fromNow_0 1 rfl rfl
theorem dX8_fromNow_4 : decode cX8_fromNow 4 = .ok (.iconst 4, 1) := dk_7 (blk_at bk_cX8_fromNow_0 4 rfl)
theorem dX8_fromNow_5 : decode cX8_fromNow 5 = .ok (.iaload, 1) := dk_46 (blk_at bk_cX8_fromNow_0 5 rfl)
theorem dX8_fromNow_6 : decode cX8_fromNow 6 = .ok (.aload_n 0, 1) := dk_42 (blk_at bk_cX8_fromNow_0 6 rfl)
theorem dX8_fromNow_7 : decode cX8_fromNow 7 = .ok (.getfield 16, 3) := dq_180 bk_cX8_fromNow_0 7 rfl rfl
theorem dX8_fromNow_10 : decode cX8_fromNow 10 = .ok (.iconst 0, 1) := dk_3 (blk_at bk_cX8_fromNow_0 10 rfl)
theorem dX8_fromNow_11 : decode cX8_fromNow 11 = .ok (.iaload, 1) := dk_46 (blk_at bk_cX8_fromNow_0 11 rfl)
theorem dX8_fromNow_12 : decode cX8_fromNow 12 = .ok (.iconst 1, 1) := dk_4 (blk_at bk_cX8_fromNow_0 12 rfl)
theorem dX8_fromNow_13 : decode cX8_fromNow 13 = .ok (.isub, 1) := dk_100 (blk_at bk_cX8_fromNow_0 13 rfl)
theorem dX8_fromNow_14 : decode cX8_fromNow 14 = .ok (.invokestatic 79, 3) := dq_184 bk_cX8_fromNow_0 14 rfl rfl
theorem dX8_fromNow_17 : decode cX8_fromNow 17 = .ok (.ireturn, 1) := dk_172 (blk_at bk_cX8_fromNow_0 17 rfl)
theorem bk_cX8_canBe_0 : (cX8_canBe.data.toList.drop 0).take 39 = [3, 54, 6, 21, 6, 42, 180, 0, 16, 3, 46, 162, 0, 87, 27, 42, 182, 0, 82, 126, 21, 6, 184, 0, 75, 154, 0, 6, 167, 0, 64, 42, 21, 6, 28, 29, 3, 21, 5] := by decide +kernel
theorem dX8_canBe_0 : decode cX8_canBe 0 = .ok (.iconst 0, 1) := dk_3 (blk_at bk_cX8_canBe_0 0 rfl)
theorem dX8_canBe_1 : decode cX8_canBe 1 = .ok (.istore 6, 2) := dq_54 bk_cX8_canBe_0 1 rfl rfl
theorem dX8_canBe_3 : decode cX8_canBe 3 = .ok (.iload 6, 2) := dq_21 bk_cX8_canBe_0 3 rfl rfl
theorem dX8_canBe_5 : decode cX8_canBe 5 = .ok (.aload_n 0, 1) := dk_42 (blk_at bk_cX8_canBe_0 5 rfl)
theorem dX8_canBe_6 : decode cX8_canBe 6 = .ok (.getfield 16, 3) := dq_180 bk_cX8_canBe_0 6 rfl rfl
theorem dX8_canBe_9 : decode cX8_canBe 9 = .ok (.iconst 0, 1) := dk_3 (blk_at bk_cX8_canBe_0 9 rfl)
theorem dX8_canBe_10 : decode cX8_canBe 10 = .ok (.iaload, 1) := dk_46 (blk_at bk_cX8_canBe_0 10 rfl)
theorem dX8_canBe_11 : decode cX8_canBe 11 = .ok (.if_icmp .ge 87, 3) := dq_162 bk_cX8_canBe_0 11 rfl (by decide)
theorem dX8_canBe_14 : decode cX8_canBe 14 = .ok (.iload_n 1, 1) := dk_27 (blk_at bk_cX8_canBe_0 14 rfl)
theorem dX8_canBe_15 : decode cX8_canBe 15 = .ok (.aload_n 0, 1) := dk_42 (blk_at bk_cX8_canBe_0 15 rfl)
theorem dX8_canBe_16 : decode cX8_canBe 16 = .ok (.invokevirtual 82, 3) := dq_182 bk_cX8_canBe_0 16 rfl rfl
theorem dX8_canBe_19 : decode cX8_canBe 19 = .ok (.iand, 1) := dk_126 (blk_at bk_cX8_canBe_0 19 rfl)
theorem dX8_canBe_20 : decode cX8_canBe 20 = .ok (.iload 6, 2) := dq_21 bk_cX8_canBe_0 20 rfl rfl
theorem dX8_canBe_22 : decode cX8_canBe 22 = .ok (.invokestatic 75, 3) := dq_184 bk_cX8_canBe_0 22 rfl rfl
theorem dX8_canBe_25 : decode cX8_canBe 25 = .ok (.ifCond .ne 6, 3) := dq_154 bk_cX8_canBe_0 25 rfl (by decide)
theorem dX8_canBe_28 : decode cX8_canBe 28 = .ok (.goto 64, 3) := dq_167 bk_cX8_canBe_0 28 rfl (by decide)
theorem dX8_canBe_31 : decode cX8_canBe 31 = .ok (.aload_n 0, 1) := dk_42 (blk_at bk_cX8_canBe_0 31 rfl)
theorem dX8_canBe_32 : decode cX8_canBe 32 = .ok (.iload 6, 2) := dq_21 bk_cX8_canBe_0 32 rfl rfl
theorem dX8_canBe_34 : decode cX8_canBe 34 = .ok (.iload_n 2, 1) := dk_28 (blk_at bk_cX8_canBe_0 34 rfl)
theorem dX8_canBe_35 : decode cX8_canBe 35 = .ok (.iload_n 3, 1) := dk_29 (blk_at bk_cX8_canBe_0 35 rfl)
theorem dX8_canBe_36 : decode cX8_canBe 36 = .ok (.iconst 0, 1) := dk_3 (blk_at bk_cX8_canBe_0 36 rfl)
theorem dX8_canBe_37 : decode cX8_canBe 37 = .ok (.iload 5, 2) := dq_21 bk_cX8_canBe_0 37 rfl rfl
theorem bk_cX8_canBe_39 : (cX8_canBe.data.toList.drop 39).take 39 = [182, 0, 86, 42, 180, 0, 16, 16, 6, 5, 29, 104, 96, 46, 161, 0, 5, 3, 172, 21, 4, 154, 0, 32, 42, 21, 6, 28, 29, 4, 21, 5, 182, 0, 86, 42, 180, 0, 16] := by decide +kernel
theorem dX8_canBe_39 : decode cX8_canBe 39 = .ok (.invokevirtual 86, 3) := dq_182 bk_cX8_canBe_39 0 rfl rfl
theorem dX8_canBe_42 : decode cX8_canBe 42 = .ok (.aload_n 0, 1) := dk_42 (blk_at bk_cX8_canBe_39 3 rfl)
theorem dX8_canBe_43 : decode cX8_canBe 43 = .ok (.getfield 16, 3) := dq_180 bk_cX8_canBe_39 4 rfl rfl
theorem dX8_canBe_46 : decode cX8_canBe 46 = .ok (.bipush 6, 2) := dq_16 bk_cX8_canBe_39 7 rfl (by decide)
theorem dX8_canBe_48 : decode cX8_canBe 48 = .ok (.iconst 2, 1) := dk_5 (blk_at bk_cX8_canBe_39 9 rfl)
theorem dX8_canBe_49 : decode cX8_canBe 49 = .ok (.iload_n 3, 1) := dk_29 (blk_at bk_cX8_canBe_39 10 rfl)
theorem dX8_canBe_50 : decode cX8_canBe 50 = .ok (.imul, 1) := dk_104 (blk_at bk_cX8_canBe_39 11 rfl)
theorem dX8_canBe_51 : decode cX8_canBe 51 = .ok (.iadd, 1) := dk_96 (blk_at bk_cX8_canBe_39 12 rfl)
theorem dX8_canBe_52 : decode cX8_canBe 52 = .ok (.iaload, 1) := dk_46 (blk_at bk_cX8_canBe_39 13 rfl)
theorem dX8_canBe_53 : decode cX8_canBe 53 = .ok (.if_icmp .lt 5, 3) := dq_161 bk_cX8_canBe_39 14 rfl (by decide)
theorem dX8_canBe_56 : decode cX8_canBe 56 = .ok (.iconst 0, 1) := dk_3 (blk_at bk_cX8_canBe_39 17 rfl)
theorem dX8_canBe_57 : decode cX8_canBe 57 = .ok (.ireturn, 1) := dk_172 (blk_at bk_cX8_canBe_39 18 rfl)
theorem dX8_canBe_58 : decode cX8_canBe 58 = .ok (.iload 4, 2) := dq_21 bk_cX8_canBe_39 19 rfl rfl
theorem dX8_canBe_60 : decode cX8_canBe 60 = .ok (.ifCond .ne 32, 3) := dq_154 bk_cX8_canBe_39 21 rfl (by decide)
theorem dX8_canBe_63 : decode cX8_canBe 63 = .ok (.aload_n 0, 1) := dk_42 (blk_at bk_cX8_canBe_39 24 rfl)
theorem dX8_canBe_64 : decode cX8_canBe 64 = .ok (.iload 6, 2) := dq_21 bk_cX8_canBe_39 25 rfl rfl
theorem dX8_canBe_66 : decode cX8_canBe 66 = .ok (.iload_n 2, 1) := dk_28 (blk_at bk_cX8_canBe_39 27 rfl)
theorem dX8_canBe_67 : decode cX8_canBe 67 = .ok (.iload_n 3, 1) := dk_29 (blk_at bk_cX8_canBe_39 28 rfl)
theorem dX8_canBe_68 : decode cX8_canBe 68 = .ok (.iconst 1, 1) := dk_4 (blk_at bk_cX8_canBe_39 29 rfl)
theorem dX8_canBe_69 : decode cX8_canBe 69 = .ok (.iload 5, 2) := dq_21 bk_cX8_canBe_39 30 rfl rfl
theorem dX8_canBe_71 : decode cX8_canBe 71 = .ok (.invokevirtual 86, 3) := dq_182 bk_cX8_canBe_39 32 rfl rfl
theorem dX8_canBe_74 : decode cX8_canBe 74 = .ok (.aload_n 0, 1) := dk_42 (blk_at bk_cX8_canBe_39 35 rfl)
theorem dX8_canBe_75 : decode cX8_canBe 75 = .ok (.getfield 16, 3) := dq_180 bk_cX8_canBe_39 36 rfl rfl
theorem bk_cX8_canBe_78 : (cX8_canBe.data.toList.drop 78).take 22 = [16, 6, 5, 29, 104, 96, 4, 96, 46, 161, 0, 5, 3, 172, 132, 6, 1, 167, 255, 164, 4, 172] := by decide +kernel
theorem dX8_canBe_78 : decode cX8_canBe 78 = .ok (.bipush 6, 2) := dq_16 bk_cX8_canBe_78 0 rfl (by decide)
theorem dX8_canBe_80 : decode cX8_canBe 80 = .ok (.iconst 2, 1) := dk_5 (blk_at bk_cX8_canBe_78 2 rfl)
theorem dX8_canBe_81 : decode cX8_canBe 81 = .ok (.iload_n 3, 1) := dk_29 (blk_at bk_cX8_canBe_78 3 rfl)
theorem dX8_canBe_82 : decode cX8_canBe 82 = .ok (.imul, 1) := dk_104 (blk_at bk_cX8_canBe_78 4 rfl)
theorem dX8_canBe_83 : decode cX8_canBe 83 = .ok (.iadd, 1) := dk_96 (blk_at bk_cX8_canBe_78 5 rfl)
theorem dX8_canBe_84 : decode cX8_canBe 84 = .ok (.iconst 1, 1) := dk_4 (blk_at bk_cX8_canBe_78 6 rfl)
theorem dX8_canBe_85 : decode cX8_canBe 85 = .ok (.iadd, 1) := dk_96 (blk_at bk_cX8_canBe_78 7 rfl)
theorem dX8_canBe_86 : decode cX8_canBe 86 = .ok (.iaload, 1) := dk_46 (blk_at bk_cX8_canBe_78 8 rfl)
theorem dX8_canBe_87 : decode cX8_canBe 87 = .ok (.if_icmp .lt 5, 3) := dq_161 bk_cX8_canBe_78 9 rfl (by decide)
theorem dX8_canBe_90 : decode cX8_canBe 90 = .ok (.iconst 0, 1) := dk_3 (blk_at bk_cX8_canBe_78 12 rfl)
theorem dX8_canBe_91 : decode cX8_canBe 91 = .ok (.ireturn, 1) := dk_172 (blk_at bk_cX8_canBe_78 13 rfl)
theorem dX8_canBe_92 : decode cX8_canBe 92 = .ok (.iinc 6 1, 3) := dq_132 bk_cX8_canBe_78 14 rfl rfl (by decide)
theorem dX8_canBe_95 : decode cX8_canBe 95 = .ok (.goto (-92), 3) := dq_167 bk_cX8_canBe_78 17 rfl (by decide)
theorem dX8_canBe_98 : decode cX8_canBe 98 = .ok (.iconst 1, 1) := dk_4 (blk_at bk_cX8_canBe_78 20 rfl)
theorem dX8_canBe_99 : decode cX8_canBe 99 = .ok (.ireturn, 1) := dk_172 (blk_at bk_cX8_canBe_78 21 rfl)
theorem bk_cX8_canBeAt_0 : (cX8_canBeAt.data.toList.drop 0).take 24 = [42, 42, 27, 182, 0, 71, 42, 27, 4, 182, 0, 67, 28, 42, 27, 6, 182, 0, 67, 27, 182, 0, 90, 172] := by decide +kernel
theorem dX8_canBeAt_0 : decode cX8_canBeAt 0 = .ok (.aload_n 0, 1) := dk_42 (blk_at bk_cX8_canBeAt_0 0 rfl)
theorem dX8_canBeAt_1 : decode cX8_canBeAt 1 = .ok (.aload_n 0, 1) := dk_42 (blk_at bk_cX8_canBeAt_0 1 rfl)
theorem dX8_canBeAt_2 : decode cX8_canBeAt 2 = .ok (.iload_n 1, 1) := dk_27 (blk_at bk_cX8_canBeAt_0 2 rfl)
theorem dX8_canBeAt_3 : decode cX8_canBeAt 3 = .ok (.invokevirtual 71, 3) := dq_182 bk_cX8_canBeAt_0 3 rfl rfl
theorem dX8_canBeAt_6 : decode cX8_canBeAt 6 = .ok (.aload_n 0, 1) := dk_42 (blk_at bk_cX8_canBeAt_0 6 rfl)
theorem dX8_canBeAt_7 : decode cX8_canBeAt 7 = .ok (.iload_n 1, 1) := dk_27 (blk_at bk_cX8_canBeAt_0 7 rfl)
theorem dX8_canBeAt_8 : decode cX8_canBeAt 8 = .ok (.iconst 1, 1) := dk_4 (blk_at bk_cX8_canBeAt_0 8 rfl)
theorem dX8_canBeAt_9 : decode cX8_canBeAt 9 = .ok (.invokevirtual 67, 3) := dq_182 bk_cX8_canBeAt_0 9 rfl rfl
theorem dX8_canBeAt_12 : decode cX8_canBeAt 12 = .ok (.iload_n 2, 1) := dk_28 (blk_at bk_cX8_canBeAt_0 12 rfl)
theorem dX8_canBeAt_13 : decode cX8_canBeAt 13 = .ok (.aload_n 0, 1) := dk_42 (blk_at bk_cX8_canBeAt_0 13 rfl)
theorem dX8_canBeAt_14 : decode cX8_canBeAt 14 = .ok (.iload_n 1, 1) := dk_27 (blk_at bk_cX8_canBeAt_0 14 rfl)
theorem dX8_canBeAt_15 : decode cX8_canBeAt 15 = .ok (.iconst 3, 1) := dk_6 (blk_at bk_cX8_canBeAt_0 15 rfl)
theorem dX8_canBeAt_16 : decode cX8_canBeAt 16 = .ok (.invokevirtual 67, 3) := dq_182 bk_cX8_canBeAt_0 16 rfl rfl
theorem dX8_canBeAt_19 : decode cX8_canBeAt 19 = .ok (.iload_n 1, 1) := dk_27 (blk_at bk_cX8_canBeAt_0 19 rfl)
theorem dX8_canBeAt_20 : decode cX8_canBeAt 20 = .ok (.invokevirtual 90, 3) := dq_182 bk_cX8_canBeAt_0 20 rfl rfl
theorem dX8_canBeAt_23 : decode cX8_canBeAt 23 = .ok (.ireturn, 1) := dk_172 (blk_at bk_cX8_canBeAt_0 23 rfl)
theorem bk_cX8_puts4_0 : (cX8_puts4.data.toList.drop 0).take 37 = [16, 24, 61, 28, 155, 0, 32, 42, 180, 0, 19, 42, 180, 0, 94, 27, 28, 122, 145, 84, 42, 89, 180, 0, 94, 4, 96, 181, 0, 94, 132, 2, 248, 167, 255, 226, 177] := by decide +kernel
theorem dX8_puts4_0 : decode cX8_puts4 0 = .ok (.bipush 24, 2) := dq_16 bk_cX8_puts4_0 0 rfl (by decide)
theorem dX8_puts4_2 : decode cX8_puts4 2 = .ok (.istore_n 2, 1) := dk_61 (blk_at bk_cX8_puts4_0 2 rfl)
theorem dX8_puts4_3 : decode cX8_puts4 3 = .ok (.iload_n 2, 1) := dk_28 (blk_at bk_cX8_puts4_0 3 rfl)
theorem dX8_puts4_4 : decode cX8_puts4 4 = .ok (.ifCond .lt 32, 3) := dq_155 bk_cX8_puts4_0 4 rfl (by decide)
theorem dX8_puts4_7 : decode cX8_puts4 7 = .ok (.aload_n 0, 1) := dk_42 (blk_at bk_cX8_puts4_0 7 rfl)
theorem dX8_puts4_8 : decode cX8_puts4 8 = .ok (.getfield 19, 3) := dq_180 bk_cX8_puts4_0 8 rfl rfl
theorem dX8_puts4_11 : decode cX8_puts4 11 = .ok (.aload_n 0, 1) := dk_42 (blk_at bk_cX8_puts4_0 11 rfl)
theorem dX8_puts4_12 : decode cX8_puts4 12 = .ok (.getfield 94, 3) := dq_180 bk_cX8_puts4_0 12 rfl rfl
theorem dX8_puts4_15 : decode cX8_puts4 15 = .ok (.iload_n 1, 1) := dk_27 (blk_at bk_cX8_puts4_0 15 rfl)
theorem dX8_puts4_16 : decode cX8_puts4 16 = .ok (.iload_n 2, 1) := dk_28 (blk_at bk_cX8_puts4_0 16 rfl)
theorem dX8_puts4_17 : decode cX8_puts4 17 = .ok (.ishr, 1) := dk_122 (blk_at bk_cX8_puts4_0 17 rfl)
theorem dX8_puts4_18 : decode cX8_puts4 18 = .ok (.i2b, 1) := dk_145 (blk_at bk_cX8_puts4_0 18 rfl)
theorem dX8_puts4_19 : decode cX8_puts4 19 = .ok (.bastore, 1) := dk_84 (blk_at bk_cX8_puts4_0 19 rfl)
theorem dX8_puts4_20 : decode cX8_puts4 20 = .ok (.aload_n 0, 1) := dk_42 (blk_at bk_cX8_puts4_0 20 rfl)
theorem dX8_puts4_21 : decode cX8_puts4 21 = .ok (.dup, 1) := dk_89 (blk_at bk_cX8_puts4_0 21 rfl)
theorem dX8_puts4_22 : decode cX8_puts4 22 = .ok (.getfield 94, 3) := dq_180 bk_cX8_puts4_0 22 rfl rfl
theorem dX8_puts4_25 : decode cX8_puts4 25 = .ok (.iconst 1, 1) := dk_4 (blk_at bk_cX8_puts4_0 25 rfl)
theorem dX8_puts4_26 : decode cX8_puts4 26 = .ok (.iadd, 1) := dk_96 (blk_at bk_cX8_puts4_0 26 rfl)
theorem dX8_puts4_27 : decode cX8_puts4 27 = .ok (.putfield 94, 3) := dq_181 bk_cX8_puts4_0 27 rfl rfl
theorem dX8_puts4_30 : decode cX8_puts4 30 = .ok (.iinc 2 (-8), 3) := dq_132 bk_cX8_puts4_0 30 rfl rfl (by decide)
theorem dX8_puts4_33 : decode cX8_puts4 33 = .ok (.goto (-30), 3) := dq_167 bk_cX8_puts4_0 33 rfl (by decide)
theorem dX8_puts4_36 : decode cX8_puts4 36 = .ok (.return_, 1) := dk_177 (blk_at bk_cX8_puts4_0 36 rfl)
theorem bk_cX8_feed_0 : (cX8_feed.data.toList.drop 0).take 39 = [42, 180, 0, 94, 16, 20, 96, 17, 4, 176, 164, 0, 5, 2, 172, 42, 27, 182, 0, 97, 42, 28, 182, 0, 97, 42, 29, 182, 0, 97, 42, 21, 4, 182, 0, 97, 42, 21, 5] := by decide +kernel
theorem dX8_feed_0 : decode cX8_feed 0 = .ok (.aload_n 0, 1) := dk_42 (blk_at bk_cX8_feed_0 0 rfl)
theorem dX8_feed_1 : decode cX8_feed 1 = .ok (.getfield 94, 3) := dq_180 bk_cX8_feed_0 1 rfl rfl
theorem dX8_feed_4 : decode cX8_feed 4 = .ok (.bipush 20, 2) := dq_16 bk_cX8_feed_0 4 rfl (by decide)
theorem dX8_feed_6 : decode cX8_feed 6 = .ok (.iadd, 1) := dk_96 (blk_at bk_cX8_feed_0 6 rfl)
theorem dX8_feed_7 : decode cX8_feed 7 = .ok (.sipush 1200, 3) := dq_17 bk_cX8_feed_0 7 rfl (by decide)
theorem dX8_feed_10 : decode cX8_feed 10 = .ok (.if_icmp .le 5, 3) := dq_164 bk_cX8_feed_0 10 rfl (by decide)
theorem dX8_feed_13 : decode cX8_feed 13 = .ok (.iconst (-1), 1) := dk_2 (blk_at bk_cX8_feed_0 13 rfl)
theorem dX8_feed_14 : decode cX8_feed 14 = .ok (.ireturn, 1) := dk_172 (blk_at bk_cX8_feed_0 14 rfl)
theorem dX8_feed_15 : decode cX8_feed 15 = .ok (.aload_n 0, 1) := dk_42 (blk_at bk_cX8_feed_0 15 rfl)
theorem dX8_feed_16 : decode cX8_feed 16 = .ok (.iload_n 1, 1) := dk_27 (blk_at bk_cX8_feed_0 16 rfl)
theorem dX8_feed_17 : decode cX8_feed 17 = .ok (.invokevirtual 97, 3) := dq_182 bk_cX8_feed_0 17 rfl rfl
theorem dX8_feed_20 : decode cX8_feed 20 = .ok (.aload_n 0, 1) := dk_42 (blk_at bk_cX8_feed_0 20 rfl)
theorem dX8_feed_21 : decode cX8_feed 21 = .ok (.iload_n 2, 1) := dk_28 (blk_at bk_cX8_feed_0 21 rfl)
theorem dX8_feed_22 : decode cX8_feed 22 = .ok (.invokevirtual 97, 3) := dq_182 bk_cX8_feed_0 22 rfl rfl
theorem dX8_feed_25 : decode cX8_feed 25 = .ok (.aload_n 0, 1) := dk_42 (blk_at bk_cX8_feed_0 25 rfl)
theorem dX8_feed_26 : decode cX8_feed 26 = .ok (.iload_n 3, 1) := dk_29 (blk_at bk_cX8_feed_0 26 rfl)
theorem dX8_feed_27 : decode cX8_feed 27 = .ok (.invokevirtual 97, 3) := dq_182 bk_cX8_feed_0 27 rfl rfl
theorem dX8_feed_30 : decode cX8_feed 30 = .ok (.aload_n 0, 1) := dk_42 (blk_at bk_cX8_feed_0 30 rfl)
theorem dX8_feed_31 : decode cX8_feed 31 = .ok (.iload 4, 2) := dq_21 bk_cX8_feed_0 31 rfl rfl
theorem dX8_feed_33 : decode cX8_feed 33 = .ok (.invokevirtual 97, 3) := dq_182 bk_cX8_feed_0 33 rfl rfl
theorem dX8_feed_36 : decode cX8_feed 36 = .ok (.aload_n 0, 1) := dk_42 (blk_at bk_cX8_feed_0 36 rfl)
theorem dX8_feed_37 : decode cX8_feed 37 = .ok (.iload 5, 2) := dq_21 bk_cX8_feed_0 37 rfl rfl
theorem bk_cX8_feed_39 : (cX8_feed.data.toList.drop 39).take 8 = [182, 0, 97, 42, 180, 0, 94, 172] := by decide +kernel
theorem dX8_feed_39 : decode cX8_feed 39 = .ok (.invokevirtual 97, 3) := dq_182 bk_cX8_feed_39 0 rfl rfl
theorem dX8_feed_42 : decode cX8_feed 42 = .ok (.aload_n 0, 1) := dk_42 (blk_at bk_cX8_feed_39 3 rfl)
theorem dX8_feed_43 : decode cX8_feed 43 = .ok (.getfield 94, 3) := dq_180 bk_cX8_feed_39 4 rfl rfl
theorem dX8_feed_46 : decode cX8_feed 46 = .ok (.ireturn, 1) := dk_172 (blk_at bk_cX8_feed_39 7 rfl)
theorem bk_cX8_end_0 : (cX8_end.data.toList.drop 0).take 23 = [27, 133, 9, 42, 180, 0, 94, 133, 184, 0, 45, 154, 0, 5, 2, 172, 42, 27, 181, 0, 94, 27, 172] := by decide +kernel
theorem dX8_end_0 : decode cX8_end 0 = .ok (.iload_n 1, 1) := dk_27 (blk_at bk_cX8_end_0 0 rfl)
theorem dX8_end_1 : decode cX8_end 1 = .ok (.i2l, 1) := dk_133 (blk_at bk_cX8_end_0 1 rfl)
theorem dX8_end_2 : decode cX8_end 2 = .ok (.lconst 0, 1) := dk_9 (blk_at bk_cX8_end_0 2 rfl)
theorem dX8_end_3 : decode cX8_end 3 = .ok (.aload_n 0, 1) := dk_42 (blk_at bk_cX8_end_0 3 rfl)
theorem dX8_end_4 : decode cX8_end 4 = .ok (.getfield 94, 3) := dq_180 bk_cX8_end_0 4 rfl rfl
theorem dX8_end_7 : decode cX8_end 7 = .ok (.i2l, 1) := dk_133 (blk_at bk_cX8_end_0 7 rfl)
theorem dX8_end_8 : decode cX8_end 8 = .ok (.invokestatic 45, 3) := dq_184 bk_cX8_end_0 8 rfl rfl
theorem dX8_end_11 : decode cX8_end 11 = .ok (.ifCond .ne 5, 3) := dq_154 bk_cX8_end_0 11 rfl (by decide)
theorem dX8_end_14 : decode cX8_end 14 = .ok (.iconst (-1), 1) := dk_2 (blk_at bk_cX8_end_0 14 rfl)
theorem dX8_end_15 : decode cX8_end 15 = .ok (.ireturn, 1) := dk_172 (blk_at bk_cX8_end_0 15 rfl)
theorem dX8_end_16 : decode cX8_end 16 = .ok (.aload_n 0, 1) := dk_42 (blk_at bk_cX8_end_0 16 rfl)
theorem dX8_end_17 : decode cX8_end 17 = .ok (.iload_n 1, 1) := dk_27 (blk_at bk_cX8_end_0 17 rfl)
theorem dX8_end_18 : decode cX8_end 18 = .ok (.putfield 94, 3) := dq_181 bk_cX8_end_0 18 rfl rfl
theorem dX8_end_21 : decode cX8_end 21 = .ok (.iload_n 1, 1) := dk_27 (blk_at bk_cX8_end_0 21 rfl)
theorem dX8_end_22 : decode cX8_end 22 = .ok (.ireturn, 1) := dk_172 (blk_at bk_cX8_end_0 22 rfl)
theorem bk_cX8_good_0 : (cX8_good.data.toList.drop 0).take 13 = [42, 180, 0, 101, 154, 0, 7, 4, 167, 0, 4, 3, 172] := by decide +kernel
theorem dX8_good_0 : decode cX8_good 0 = .ok (.aload_n 0, 1) := dk_42 (blk_at bk_cX8_good_0 0 rfl)
theorem dX8_good_1 : decode cX8_good 1 = .ok (.getfield 101, 3) := dq_180 bk_cX8_good_0 1 rfl rfl
theorem dX8_good_4 : decode cX8_good 4 = .ok (.ifCond .ne 7, 3) := dq_154 bk_cX8_good_0 4 rfl (by decide)
theorem dX8_good_7 : decode cX8_good 7 = .ok (.iconst 1, 1) := dk_4 (blk_at bk_cX8_good_0 7 rfl)
theorem dX8_good_8 : decode cX8_good 8 = .ok (.goto 4, 3) := dq_167 bk_cX8_good_0 8 rfl (by decide)
theorem dX8_good_11 : decode cX8_good 11 = .ok (.iconst 0, 1) := dk_3 (blk_at bk_cX8_good_0 11 rfl)
theorem dX8_good_12 : decode cX8_good 12 = .ok (.ireturn, 1) := dk_172 (blk_at bk_cX8_good_0 12 rfl)
theorem bk_cX8_errs_0 : (cX8_errs.data.toList.drop 0).take 19 = [42, 182, 0, 104, 154, 0, 4, 177, 42, 27, 181, 0, 101, 42, 28, 181, 0, 23, 177] := by decide +kernel
theorem dX8_errs_0 : decode cX8_errs 0 = .ok (.aload_n 0, 1) := dk_42 (blk_at bk_cX8_errs_0 0 rfl)
theorem dX8_errs_1 : decode cX8_errs 1 = .ok (.invokevirtual 104, 3) := dq_182 bk_cX8_errs_0 1 rfl rfl
theorem dX8_errs_4 : decode cX8_errs 4 = .ok (.ifCond .ne 4, 3) := dq_154 bk_cX8_errs_0 4 rfl (by decide)
theorem dX8_errs_7 : decode cX8_errs 7 = .ok (.return_, 1) := dk_177 (blk_at bk_cX8_errs_0 7 rfl)
theorem dX8_errs_8 : decode cX8_errs 8 = .ok (.aload_n 0, 1) := dk_42 (blk_at bk_cX8_errs_0 8 rfl)
theorem dX8_errs_9 : decode cX8_errs 9 = .ok (.iload_n 1, 1) := dk_27 (blk_at bk_cX8_errs_0 9 rfl)
theorem dX8_errs_10 : decode cX8_errs 10 = .ok (.putfield 101, 3) := dq_181 bk_cX8_errs_0 10 rfl rfl
theorem dX8_errs_13 : decode cX8_errs 13 = .ok (.aload_n 0, 1) := dk_42 (blk_at bk_cX8_errs_0 13 rfl)
theorem dX8_errs_14 : decode cX8_errs 14 = .ok (.iload_n 2, 1) := dk_28 (blk_at bk_cX8_errs_0 14 rfl)
theorem dX8_errs_15 : decode cX8_errs 15 = .ok (.putfield 23, 3) := dq_181 bk_cX8_errs_0 15 rfl rfl
theorem dX8_errs_18 : decode cX8_errs 18 = .ok (.return_, 1) := dk_177 (blk_at bk_cX8_errs_0 18 rfl)
theorem bk_cX8_see_0 : (cX8_see.data.toList.drop 0).take 23 = [27, 42, 180, 0, 107, 162, 0, 16, 42, 180, 0, 19, 27, 51, 17, 0, 255, 126, 167, 0, 4, 2, 172] := by decide +kernel
theorem dX8_see_0 : decode cX8_see 0 = .ok (.iload_n 1, 1) := dk_27 (blk_at bk_cX8_see_0 0 rfl)
theorem dX8_see_1 : decode cX8_see 1 = .ok (.aload_n 0, 1) := dk_42 (blk_at bk_cX8_see_0 1 rfl)
theorem dX8_see_2 : decode cX8_see 2 = .ok (.getfield 107, 3) := dq_180 bk_cX8_see_0 2 rfl rfl
theorem dX8_see_5 : decode cX8_see 5 = .ok (.if_icmp .ge 16, 3) := dq_162 bk_cX8_see_0 5 rfl (by decide)
theorem dX8_see_8 : decode cX8_see 8 = .ok (.aload_n 0, 1) := dk_42 (blk_at bk_cX8_see_0 8 rfl)
theorem dX8_see_9 : decode cX8_see 9 = .ok (.getfield 19, 3) := dq_180 bk_cX8_see_0 9 rfl rfl
theorem dX8_see_12 : decode cX8_see 12 = .ok (.iload_n 1, 1) := dk_27 (blk_at bk_cX8_see_0 12 rfl)
theorem dX8_see_13 : decode cX8_see 13 = .ok (.baload, 1) := dk_51 (blk_at bk_cX8_see_0 13 rfl)
theorem dX8_see_14 : decode cX8_see 14 = .ok (.sipush 255, 3) := dq_17 bk_cX8_see_0 14 rfl (by decide)
theorem dX8_see_17 : decode cX8_see 17 = .ok (.iand, 1) := dk_126 (blk_at bk_cX8_see_0 17 rfl)
theorem dX8_see_18 : decode cX8_see 18 = .ok (.goto 4, 3) := dq_167 bk_cX8_see_0 18 rfl (by decide)
theorem dX8_see_21 : decode cX8_see 21 = .ok (.iconst (-1), 1) := dk_2 (blk_at bk_cX8_see_0 21 rfl)
theorem dX8_see_22 : decode cX8_see 22 = .ok (.ireturn, 1) := dk_172 (blk_at bk_cX8_see_0 22 rfl)
theorem bk_cX8_advance_0 : (cX8_advance.data.toList.drop 0).take 40 = [42, 42, 180, 0, 110, 182, 0, 113, 16, 32, 159, 0, 16, 42, 42, 180, 0, 110, 182, 0, 113, 16, 10, 160, 0, 16, 42, 89, 180, 0, 110, 4, 96, 181, 0, 110, 167, 255, 220, 42] := by decide +kernel
theorem dX8_advance_0 : decode cX8_advance 0 = .ok (.aload_n 0, 1) := dk_42 (blk_at bk_cX8_advance_0 0 rfl)
theorem dX8_advance_1 : decode cX8_advance 1 = .ok (.aload_n 0, 1) := dk_42 (blk_at bk_cX8_advance_0 1 rfl)
theorem dX8_advance_2 : decode cX8_advance 2 = .ok (.getfield 110, 3) := dq_180 bk_cX8_advance_0 2 rfl rfl
theorem dX8_advance_5 : decode cX8_advance 5 = .ok (.invokevirtual 113, 3) := dq_182 bk_cX8_advance_0 5 rfl rfl
theorem dX8_advance_8 : decode cX8_advance 8 = .ok (.bipush 32, 2) := dq_16 bk_cX8_advance_0 8 rfl (by decide)
theorem dX8_advance_10 : decode cX8_advance 10 = .ok (.if_icmp .eq 16, 3) := dq_159 bk_cX8_advance_0 10 rfl (by decide)
theorem dX8_advance_13 : decode cX8_advance 13 = .ok (.aload_n 0, 1) := dk_42 (blk_at bk_cX8_advance_0 13 rfl)
theorem dX8_advance_14 : decode cX8_advance 14 = .ok (.aload_n 0, 1) := dk_42 (blk_at bk_cX8_advance_0 14 rfl)
theorem dX8_advance_15 : decode cX8_advance 15 = .ok (.getfield 110, 3) := dq_180 bk_cX8_advance_0 15 rfl rfl
theorem dX8_advance_18 : decode cX8_advance 18 = .ok (.invokevirtual 113, 3) := dq_182 bk_cX8_advance_0 18 rfl rfl
theorem dX8_advance_21 : decode cX8_advance 21 = .ok (.bipush 10, 2) := dq_16 bk_cX8_advance_0 21 rfl (by decide)
theorem dX8_advance_23 : decode cX8_advance 23 = .ok (.if_icmp .ne 16, 3) := dq_160 bk_cX8_advance_0 23 rfl (by decide)
theorem dX8_advance_26 : decode cX8_advance 26 = .ok (.aload_n 0, 1) := dk_42 (blk_at bk_cX8_advance_0 26 rfl)
theorem dX8_advance_27 : decode cX8_advance 27 = .ok (.dup, 1) := dk_89 (blk_at bk_cX8_advance_0 27 rfl)
theorem dX8_advance_28 : decode cX8_advance 28 = .ok (.getfield 110, 3) := dq_180 bk_cX8_advance_0 28 rfl rfl
theorem dX8_advance_31 : decode cX8_advance 31 = .ok (.iconst 1, 1) := dk_4 (blk_at bk_cX8_advance_0 31 rfl)
theorem dX8_advance_32 : decode cX8_advance 32 = .ok (.iadd, 1) := dk_96 (blk_at bk_cX8_advance_0 32 rfl)
theorem dX8_advance_33 : decode cX8_advance 33 = .ok (.putfield 110, 3) := dq_181 bk_cX8_advance_0 33 rfl rfl
theorem dX8_advance_36 : decode cX8_advance 36 = .ok (.goto (-36), 3) := dq_167 bk_cX8_advance_0 36 rfl (by decide)
theorem dX8_advance_39 : decode cX8_advance 39 = .ok (.aload_n 0, 1) := dk_42 (blk_at bk_cX8_advance_0 39 rfl)
theorem bk_cX8_advance_40 : (cX8_advance.data.toList.drop 40).take 40 = [42, 180, 0, 110, 181, 0, 116, 42, 42, 180, 0, 110, 182, 0, 113, 60, 27, 2, 160, 0, 11, 42, 3, 181, 0, 119, 167, 0, 169, 27, 133, 20, 0, 122, 20, 0, 124, 184, 0, 45] := by decide +kernel
theorem dX8_advance_40 : decode cX8_advance 40 = .ok (.aload_n 0, 1) := dk_42 (blk_at bk_cX8_advance_40 0 rfl)
theorem dX8_advance_41 : decode cX8_advance 41 = .ok (.getfield 110, 3) := dq_180 bk_cX8_advance_40 1 rfl rfl
theorem dX8_advance_44 : decode cX8_advance 44 = .ok (.putfield 116, 3) := dq_181 bk_cX8_advance_40 4 rfl rfl
theorem dX8_advance_47 : decode cX8_advance 47 = .ok (.aload_n 0, 1) := dk_42 (blk_at bk_cX8_advance_40 7 rfl)
theorem dX8_advance_48 : decode cX8_advance 48 = .ok (.aload_n 0, 1) := dk_42 (blk_at bk_cX8_advance_40 8 rfl)
theorem dX8_advance_49 : decode cX8_advance 49 = .ok (.getfield 110, 3) := dq_180 bk_cX8_advance_40 9 rfl rfl
theorem dX8_advance_52 : decode cX8_advance 52 = .ok (.invokevirtual 113, 3) := dq_182 bk_cX8_advance_40 12 rfl rfl
theorem dX8_advance_55 : decode cX8_advance 55 = .ok (.istore_n 1, 1) := dk_60 (blk_at bk_cX8_advance_40 15 rfl)
theorem dX8_advance_56 : decode cX8_advance 56 = .ok (.iload_n 1, 1) := dk_27 (blk_at bk_cX8_advance_40 16 rfl)
theorem dX8_advance_57 : decode cX8_advance 57 = .ok (.iconst (-1), 1) := dk_2 (blk_at bk_cX8_advance_40 17 rfl)
theorem dX8_advance_58 : decode cX8_advance 58 = .ok (.if_icmp .ne 11, 3) := dq_160 bk_cX8_advance_40 18 rfl (by decide)
theorem dX8_advance_61 : decode cX8_advance 61 = .ok (.aload_n 0, 1) := dk_42 (blk_at bk_cX8_advance_40 21 rfl)
theorem dX8_advance_62 : decode cX8_advance 62 = .ok (.iconst 0, 1) := dk_3 (blk_at bk_cX8_advance_40 22 rfl)
theorem dX8_advance_63 : decode cX8_advance 63 = .ok (.putfield 119, 3) := dq_181 bk_cX8_advance_40 23 rfl rfl
theorem dX8_advance_66 : decode cX8_advance 66 = .ok (.goto 169, 3) := dq_167 bk_cX8_advance_40 26 rfl (by decide)
theorem dX8_advance_69 : decode cX8_advance 69 = .ok (.iload_n 1, 1) := dk_27 (blk_at bk_cX8_advance_40 29 rfl)
theorem dX8_advance_70 : decode cX8_advance 70 = .ok (.i2l, 1) := dk_133 (blk_at bk_cX8_advance_40 30 rfl)
theorem dX8_advance_71 : decode cX8_advance 71 = .ok (.ldc2_w 122, 3) := dq_20 bk_cX8_advance_40 31 rfl rfl
theorem dX8_advance_74 : decode cX8_advance 74 = .ok (.ldc2_w 124, 3) := dq_20 bk_cX8_advance_40 34 rfl rfl
theorem dX8_advance_77 : decode cX8_advance 77 = .ok (.invokestatic 45, 3) := dq_184 bk_cX8_advance_40 37 rfl rfl
theorem bk_cX8_advance_80 : (cX8_advance.data.toList.drop 80).take 39 = [153, 0, 45, 42, 42, 180, 0, 110, 182, 0, 113, 133, 20, 0, 122, 20, 0, 124, 184, 0, 45, 153, 0, 16, 42, 89, 180, 0, 110, 4, 96, 181, 0, 110, 167, 255, 225, 42, 4] := by decide +kernel
theorem dX8_advance_80 : decode cX8_advance 80 = .ok (.ifCond .eq 45, 3) := dq_153 bk_cX8_advance_80 0 rfl (by decide)
theorem dX8_advance_83 : decode cX8_advance 83 = .ok (.aload_n 0, 1) := dk_42 (blk_at bk_cX8_advance_80 3 rfl)
theorem dX8_advance_84 : decode cX8_advance 84 = .ok (.aload_n 0, 1) := dk_42 (blk_at bk_cX8_advance_80 4 rfl)
theorem dX8_advance_85 : decode cX8_advance 85 = .ok (.getfield 110, 3) := dq_180 bk_cX8_advance_80 5 rfl rfl
theorem dX8_advance_88 : decode cX8_advance 88 = .ok (.invokevirtual 113, 3) := dq_182 bk_cX8_advance_80 8 rfl rfl
theorem dX8_advance_91 : decode cX8_advance 91 = .ok (.i2l, 1) := dk_133 (blk_at bk_cX8_advance_80 11 rfl)
theorem dX8_advance_92 : decode cX8_advance 92 = .ok (.ldc2_w 122, 3) := dq_20 bk_cX8_advance_80 12 rfl rfl
theorem dX8_advance_95 : decode cX8_advance 95 = .ok (.ldc2_w 124, 3) := dq_20 bk_cX8_advance_80 15 rfl rfl
theorem dX8_advance_98 : decode cX8_advance 98 = .ok (.invokestatic 45, 3) := dq_184 bk_cX8_advance_80 18 rfl rfl
theorem dX8_advance_101 : decode cX8_advance 101 = .ok (.ifCond .eq 16, 3) := dq_153 bk_cX8_advance_80 21 rfl (by decide)
theorem dX8_advance_104 : decode cX8_advance 104 = .ok (.aload_n 0, 1) := dk_42 (blk_at bk_cX8_advance_80 24 rfl)
theorem dX8_advance_105 : decode cX8_advance 105 = .ok (.dup, 1) := dk_89 (blk_at bk_cX8_advance_80 25 rfl)
theorem dX8_advance_106 : decode cX8_advance 106 = .ok (.getfield 110, 3) := dq_180 bk_cX8_advance_80 26 rfl rfl
theorem dX8_advance_109 : decode cX8_advance 109 = .ok (.iconst 1, 1) := dk_4 (blk_at bk_cX8_advance_80 29 rfl)
theorem dX8_advance_110 : decode cX8_advance 110 = .ok (.iadd, 1) := dk_96 (blk_at bk_cX8_advance_80 30 rfl)
theorem dX8_advance_111 : decode cX8_advance 111 = .ok (.putfield 110, 3) := dq_181 bk_cX8_advance_80 31 rfl rfl
theorem dX8_advance_114 : decode cX8_advance 114 = .ok (.goto (-31), 3) := dq_167 bk_cX8_advance_80 34 rfl (by decide)
theorem dX8_advance_117 : decode cX8_advance 117 = .ok (.aload_n 0, 1) := dk_42 (blk_at bk_cX8_advance_80 37 rfl)
theorem dX8_advance_118 : decode cX8_advance 118 = .ok (.iconst 1, 1) := dk_4 (blk_at bk_cX8_advance_80 38 rfl)
theorem bk_cX8_advance_119 : (cX8_advance.data.toList.drop 119).take 40 = [181, 0, 119, 167, 0, 113, 27, 133, 20, 0, 126, 20, 0, 128, 184, 0, 45, 153, 0, 79, 42, 3, 181, 0, 130, 42, 42, 180, 0, 110, 182, 0, 113, 133, 20, 0, 126, 20, 0, 128] := by decide +kernel
theorem dX8_advance_119 : decode cX8_advance 119 = .ok (.putfield 119, 3) := dq_181 bk_cX8_advance_119 0 rfl rfl
theorem dX8_advance_122 : decode cX8_advance 122 = .ok (.goto 113, 3) := dq_167 bk_cX8_advance_119 3 rfl (by decide)
theorem dX8_advance_125 : decode cX8_advance 125 = .ok (.iload_n 1, 1) := dk_27 (blk_at bk_cX8_advance_119 6 rfl)
theorem dX8_advance_126 : decode cX8_advance 126 = .ok (.i2l, 1) := dk_133 (blk_at bk_cX8_advance_119 7 rfl)
theorem dX8_advance_127 : decode cX8_advance 127 = .ok (.ldc2_w 126, 3) := dq_20 bk_cX8_advance_119 8 rfl rfl
theorem dX8_advance_130 : decode cX8_advance 130 = .ok (.ldc2_w 128, 3) := dq_20 bk_cX8_advance_119 11 rfl rfl
theorem dX8_advance_133 : decode cX8_advance 133 = .ok (.invokestatic 45, 3) := dq_184 bk_cX8_advance_119 14 rfl rfl
theorem dX8_advance_136 : decode cX8_advance 136 = .ok (.ifCond .eq 79, 3) := dq_153 bk_cX8_advance_119 17 rfl (by decide)
theorem dX8_advance_139 : decode cX8_advance 139 = .ok (.aload_n 0, 1) := dk_42 (blk_at bk_cX8_advance_119 20 rfl)
theorem dX8_advance_140 : decode cX8_advance 140 = .ok (.iconst 0, 1) := dk_3 (blk_at bk_cX8_advance_119 21 rfl)
theorem dX8_advance_141 : decode cX8_advance 141 = .ok (.putfield 130, 3) := dq_181 bk_cX8_advance_119 22 rfl rfl
theorem dX8_advance_144 : decode cX8_advance 144 = .ok (.aload_n 0, 1) := dk_42 (blk_at bk_cX8_advance_119 25 rfl)
theorem dX8_advance_145 : decode cX8_advance 145 = .ok (.aload_n 0, 1) := dk_42 (blk_at bk_cX8_advance_119 26 rfl)
theorem dX8_advance_146 : decode cX8_advance 146 = .ok (.getfield 110, 3) := dq_180 bk_cX8_advance_119 27 rfl rfl
theorem dX8_advance_149 : decode cX8_advance 149 = .ok (.invokevirtual 113, 3) := dq_182 bk_cX8_advance_119 30 rfl rfl
theorem dX8_advance_152 : decode cX8_advance 152 = .ok (.i2l, 1) := dk_133 (blk_at bk_cX8_advance_119 33 rfl)
theorem dX8_advance_153 : decode cX8_advance 153 = .ok (.ldc2_w 126, 3) := dq_20 bk_cX8_advance_119 34 rfl rfl
theorem dX8_advance_156 : decode cX8_advance 156 = .ok (.ldc2_w 128, 3) := dq_20 bk_cX8_advance_119 37 rfl rfl
theorem bk_cX8_advance_159 : (cX8_advance.data.toList.drop 159).take 40 = [184, 0, 45, 153, 0, 45, 42, 17, 39, 15, 16, 10, 42, 180, 0, 130, 104, 42, 42, 180, 0, 110, 182, 0, 113, 96, 16, 48, 100, 184, 0, 133, 181, 0, 130, 42, 89, 180, 0, 110] := by decide +kernel
theorem dX8_advance_159 : decode cX8_advance 159 = .ok (.invokestatic 45, 3) := dq_184 bk_cX8_advance_159 0 rfl rfl
theorem dX8_advance_162 : decode cX8_advance 162 = .ok (.ifCond .eq 45, 3) := dq_153 bk_cX8_advance_159 3 rfl (by decide)
theorem dX8_advance_165 : decode cX8_advance 165 = .ok (.aload_n 0, 1) := dk_42 (blk_at bk_cX8_advance_159 6 rfl)
theorem dX8_advance_166 : decode cX8_advance 166 = .ok (.sipush 9999, 3) := dq_17 bk_cX8_advance_159 7 rfl (by decide)
theorem dX8_advance_169 : decode cX8_advance 169 = .ok (.bipush 10, 2) := dq_16 bk_cX8_advance_159 10 rfl (by decide)
theorem dX8_advance_171 : decode cX8_advance 171 = .ok (.aload_n 0, 1) := dk_42 (blk_at bk_cX8_advance_159 12 rfl)
theorem dX8_advance_172 : decode cX8_advance 172 = .ok (.getfield 130, 3) := dq_180 bk_cX8_advance_159 13 rfl rfl
theorem dX8_advance_175 : decode cX8_advance 175 = .ok (.imul, 1) := dk_104 (blk_at bk_cX8_advance_159 16 rfl)
theorem dX8_advance_176 : decode cX8_advance 176 = .ok (.aload_n 0, 1) := dk_42 (blk_at bk_cX8_advance_159 17 rfl)
theorem dX8_advance_177 : decode cX8_advance 177 = .ok (.aload_n 0, 1) := dk_42 (blk_at bk_cX8_advance_159 18 rfl)
theorem dX8_advance_178 : decode cX8_advance 178 = .ok (.getfield 110, 3) := dq_180 bk_cX8_advance_159 19 rfl rfl
theorem dX8_advance_181 : decode cX8_advance 181 = .ok (.invokevirtual 113, 3) := dq_182 bk_cX8_advance_159 22 rfl rfl
theorem dX8_advance_184 : decode cX8_advance 184 = .ok (.iadd, 1) := dk_96 (blk_at bk_cX8_advance_159 25 rfl)
theorem dX8_advance_185 : decode cX8_advance 185 = .ok (.bipush 48, 2) := dq_16 bk_cX8_advance_159 26 rfl (by decide)
theorem dX8_advance_187 : decode cX8_advance 187 = .ok (.isub, 1) := dk_100 (blk_at bk_cX8_advance_159 28 rfl)
theorem dX8_advance_188 : decode cX8_advance 188 = .ok (.invokestatic 133, 3) := dq_184 bk_cX8_advance_159 29 rfl rfl
theorem dX8_advance_191 : decode cX8_advance 191 = .ok (.putfield 130, 3) := dq_181 bk_cX8_advance_159 32 rfl rfl
theorem dX8_advance_194 : decode cX8_advance 194 = .ok (.aload_n 0, 1) := dk_42 (blk_at bk_cX8_advance_159 35 rfl)
theorem dX8_advance_195 : decode cX8_advance 195 = .ok (.dup, 1) := dk_89 (blk_at bk_cX8_advance_159 36 rfl)
theorem dX8_advance_196 : decode cX8_advance 196 = .ok (.getfield 110, 3) := dq_180 bk_cX8_advance_159 37 rfl rfl
theorem bk_cX8_advance_199 : (cX8_advance.data.toList.drop 199).take 37 = [4, 96, 181, 0, 110, 167, 255, 196, 42, 5, 181, 0, 119, 167, 0, 23, 42, 6, 181, 0, 119, 42, 27, 181, 0, 130, 42, 89, 180, 0, 110, 4, 96, 181, 0, 110, 177] := by decide +kernel
theorem dX8_advance_199 : decode cX8_advance 199 = .ok (.iconst 1, 1) := dk_4 (blk_at bk_cX8_advance_199 0 rfl)
theorem dX8_advance_200 : decode cX8_advance 200 = .ok (.iadd, 1) := dk_96 (blk_at bk_cX8_advance_199 1 rfl)
theorem dX8_advance_201 : decode cX8_advance 201 = .ok (.putfield 110, 3) := dq_181 bk_cX8_advance_199 2 rfl rfl
theorem dX8_advance_204 : decode cX8_advance 204 = .ok (.goto (-60), 3) := dq_167 bk_cX8_advance_199 5 rfl (by decide)
theorem dX8_advance_207 : decode cX8_advance 207 = .ok (.aload_n 0, 1) := dk_42 (blk_at bk_cX8_advance_199 8 rfl)
theorem dX8_advance_208 : decode cX8_advance 208 = .ok (.iconst 2, 1) := dk_5 (blk_at bk_cX8_advance_199 9 rfl)
theorem dX8_advance_209 : decode cX8_advance 209 = .ok (.putfield 119, 3) := dq_181 bk_cX8_advance_199 10 rfl rfl
theorem dX8_advance_212 : decode cX8_advance 212 = .ok (.goto 23, 3) := dq_167 bk_cX8_advance_199 13 rfl (by decide)
theorem dX8_advance_215 : decode cX8_advance 215 = .ok (.aload_n 0, 1) := dk_42 (blk_at bk_cX8_advance_199 16 rfl)
theorem dX8_advance_216 : decode cX8_advance 216 = .ok (.iconst 3, 1) := dk_6 (blk_at bk_cX8_advance_199 17 rfl)
theorem dX8_advance_217 : decode cX8_advance 217 = .ok (.putfield 119, 3) := dq_181 bk_cX8_advance_199 18 rfl rfl
theorem dX8_advance_220 : decode cX8_advance 220 = .ok (.aload_n 0, 1) := dk_42 (blk_at bk_cX8_advance_199 21 rfl)
theorem dX8_advance_221 : decode cX8_advance 221 = .ok (.iload_n 1, 1) := dk_27 (blk_at bk_cX8_advance_199 22 rfl)
theorem dX8_advance_222 : decode cX8_advance 222 = .ok (.putfield 130, 3) := dq_181 bk_cX8_advance_199 23 rfl rfl
theorem dX8_advance_225 : decode cX8_advance 225 = .ok (.aload_n 0, 1) := dk_42 (blk_at bk_cX8_advance_199 26 rfl)
theorem dX8_advance_226 : decode cX8_advance 226 = .ok (.dup, 1) := dk_89 (blk_at bk_cX8_advance_199 27 rfl)
theorem dX8_advance_227 : decode cX8_advance 227 = .ok (.getfield 110, 3) := dq_180 bk_cX8_advance_199 28 rfl rfl
theorem dX8_advance_230 : decode cX8_advance 230 = .ok (.iconst 1, 1) := dk_4 (blk_at bk_cX8_advance_199 31 rfl)
theorem dX8_advance_231 : decode cX8_advance 231 = .ok (.iadd, 1) := dk_96 (blk_at bk_cX8_advance_199 32 rfl)
theorem dX8_advance_232 : decode cX8_advance 232 = .ok (.putfield 110, 3) := dq_181 bk_cX8_advance_199 33 rfl rfl
theorem dX8_advance_235 : decode cX8_advance 235 = .ok (.return_, 1) := dk_177 (blk_at bk_cX8_advance_199 36 rfl)
theorem bk_cX8_isWord_0 : (cX8_isWord.data.toList.drop 0).take 40 = [42, 182, 0, 104, 153, 0, 31, 42, 180, 0, 119, 4, 160, 0, 23, 42, 180, 0, 110, 42, 180, 0, 116, 100, 43, 182, 0, 138, 160, 0, 7, 4, 167, 0, 4, 3, 61, 3, 62, 29] := by decide +kernel
theorem dX8_isWord_0 : decode cX8_isWord 0 = .ok (.aload_n 0, 1) := dk_42 (blk_at bk_cX8_isWord_0 0 rfl)
theorem dX8_isWord_1 : decode cX8_isWord 1 = .ok (.invokevirtual 104, 3) := dq_182 bk_cX8_isWord_0 1 rfl rfl
theorem dX8_isWord_4 : decode cX8_isWord 4 = .ok (.ifCond .eq 31, 3) := dq_153 bk_cX8_isWord_0 4 rfl (by decide)
theorem dX8_isWord_7 : decode cX8_isWord 7 = .ok (.aload_n 0, 1) := dk_42 (blk_at bk_cX8_isWord_0 7 rfl)
theorem dX8_isWord_8 : decode cX8_isWord 8 = .ok (.getfield 119, 3) := dq_180 bk_cX8_isWord_0 8 rfl rfl
theorem dX8_isWord_11 : decode cX8_isWord 11 = .ok (.iconst 1, 1) := dk_4 (blk_at bk_cX8_isWord_0 11 rfl)
theorem dX8_isWord_12 : decode cX8_isWord 12 = .ok (.if_icmp .ne 23, 3) := dq_160 bk_cX8_isWord_0 12 rfl (by decide)
theorem dX8_isWord_15 : decode cX8_isWord 15 = .ok (.aload_n 0, 1) := dk_42 (blk_at bk_cX8_isWord_0 15 rfl)
theorem dX8_isWord_16 : decode cX8_isWord 16 = .ok (.getfield 110, 3) := dq_180 bk_cX8_isWord_0 16 rfl rfl
theorem dX8_isWord_19 : decode cX8_isWord 19 = .ok (.aload_n 0, 1) := dk_42 (blk_at bk_cX8_isWord_0 19 rfl)
theorem dX8_isWord_20 : decode cX8_isWord 20 = .ok (.getfield 116, 3) := dq_180 bk_cX8_isWord_0 20 rfl rfl
theorem dX8_isWord_23 : decode cX8_isWord 23 = .ok (.isub, 1) := dk_100 (blk_at bk_cX8_isWord_0 23 rfl)
theorem dX8_isWord_24 : decode cX8_isWord 24 = .ok (.aload_n 1, 1) := dk_43 (blk_at bk_cX8_isWord_0 24 rfl)
theorem dX8_isWord_25 : decode cX8_isWord 25 = .ok (.invokevirtual 138, 3) := dq_182 bk_cX8_isWord_0 25 rfl rfl
theorem dX8_isWord_28 : decode cX8_isWord 28 = .ok (.if_icmp .ne 7, 3) := dq_160 bk_cX8_isWord_0 28 rfl (by decide)
theorem dX8_isWord_31 : decode cX8_isWord 31 = .ok (.iconst 1, 1) := dk_4 (blk_at bk_cX8_isWord_0 31 rfl)
theorem dX8_isWord_32 : decode cX8_isWord 32 = .ok (.goto 4, 3) := dq_167 bk_cX8_isWord_0 32 rfl (by decide)
theorem dX8_isWord_35 : decode cX8_isWord 35 = .ok (.iconst 0, 1) := dk_3 (blk_at bk_cX8_isWord_0 35 rfl)
theorem dX8_isWord_36 : decode cX8_isWord 36 = .ok (.istore_n 2, 1) := dk_61 (blk_at bk_cX8_isWord_0 36 rfl)
theorem dX8_isWord_37 : decode cX8_isWord 37 = .ok (.iconst 0, 1) := dk_3 (blk_at bk_cX8_isWord_0 37 rfl)
theorem dX8_isWord_38 : decode cX8_isWord 38 = .ok (.istore_n 3, 1) := dk_62 (blk_at bk_cX8_isWord_0 38 rfl)
theorem dX8_isWord_39 : decode cX8_isWord 39 = .ok (.iload_n 3, 1) := dk_29 (blk_at bk_cX8_isWord_0 39 rfl)
theorem bk_cX8_isWord_40 : (cX8_isWord.data.toList.drop 40).take 39 = [43, 182, 0, 138, 162, 0, 38, 28, 153, 0, 34, 42, 180, 0, 19, 42, 180, 0, 116, 29, 96, 51, 43, 29, 182, 0, 143, 160, 0, 7, 4, 167, 0, 4, 3, 61, 132, 3, 1] := by decide +kernel
theorem dX8_isWord_40 : decode cX8_isWord 40 = .ok (.aload_n 1, 1) := dk_43 (blk_at bk_cX8_isWord_40 0 rfl)
theorem dX8_isWord_41 : decode cX8_isWord 41 = .ok (.invokevirtual 138, 3) := dq_182 bk_cX8_isWord_40 1 rfl rfl
theorem dX8_isWord_44 : decode cX8_isWord 44 = .ok (.if_icmp .ge 38, 3) := dq_162 bk_cX8_isWord_40 4 rfl (by decide)
theorem dX8_isWord_47 : decode cX8_isWord 47 = .ok (.iload_n 2, 1) := dk_28 (blk_at bk_cX8_isWord_40 7 rfl)
theorem dX8_isWord_48 : decode cX8_isWord 48 = .ok (.ifCond .eq 34, 3) := dq_153 bk_cX8_isWord_40 8 rfl (by decide)
theorem dX8_isWord_51 : decode cX8_isWord 51 = .ok (.aload_n 0, 1) := dk_42 (blk_at bk_cX8_isWord_40 11 rfl)
theorem dX8_isWord_52 : decode cX8_isWord 52 = .ok (.getfield 19, 3) := dq_180 bk_cX8_isWord_40 12 rfl rfl
theorem dX8_isWord_55 : decode cX8_isWord 55 = .ok (.aload_n 0, 1) := dk_42 (blk_at bk_cX8_isWord_40 15 rfl)
theorem dX8_isWord_56 : decode cX8_isWord 56 = .ok (.getfield 116, 3) := dq_180 bk_cX8_isWord_40 16 rfl rfl
theorem dX8_isWord_59 : decode cX8_isWord 59 = .ok (.iload_n 3, 1) := dk_29 (blk_at bk_cX8_isWord_40 19 rfl)
theorem dX8_isWord_60 : decode cX8_isWord 60 = .ok (.iadd, 1) := dk_96 (blk_at bk_cX8_isWord_40 20 rfl)
theorem dX8_isWord_61 : decode cX8_isWord 61 = .ok (.baload, 1) := dk_51 (blk_at bk_cX8_isWord_40 21 rfl)
theorem dX8_isWord_62 : decode cX8_isWord 62 = .ok (.aload_n 1, 1) := dk_43 (blk_at bk_cX8_isWord_40 22 rfl)
theorem dX8_isWord_63 : decode cX8_isWord 63 = .ok (.iload_n 3, 1) := dk_29 (blk_at bk_cX8_isWord_40 23 rfl)
theorem dX8_isWord_64 : decode cX8_isWord 64 = .ok (.invokevirtual 143, 3) := dq_182 bk_cX8_isWord_40 24 rfl rfl
theorem dX8_isWord_67 : decode cX8_isWord 67 = .ok (.if_icmp .ne 7, 3) := dq_160 bk_cX8_isWord_40 27 rfl (by decide)
theorem dX8_isWord_70 : decode cX8_isWord 70 = .ok (.iconst 1, 1) := dk_4 (blk_at bk_cX8_isWord_40 30 rfl)
theorem dX8_isWord_71 : decode cX8_isWord 71 = .ok (.goto 4, 3) := dq_167 bk_cX8_isWord_40 31 rfl (by decide)
theorem dX8_isWord_74 : decode cX8_isWord 74 = .ok (.iconst 0, 1) := dk_3 (blk_at bk_cX8_isWord_40 34 rfl)
theorem dX8_isWord_75 : decode cX8_isWord 75 = .ok (.istore_n 2, 1) := dk_61 (blk_at bk_cX8_isWord_40 35 rfl)
theorem dX8_isWord_76 : decode cX8_isWord 76 = .ok (.iinc 3 1, 3) := dq_132 bk_cX8_isWord_40 36 rfl rfl (by decide)
theorem bk_cX8_isWord_79 : (cX8_isWord.data.toList.drop 79).take 5 = [167, 255, 216, 28, 172] := by decide +kernel
theorem dX8_isWord_79 : decode cX8_isWord 79 = .ok (.goto (-40), 3) := dq_167 bk_cX8_isWord_79 0 rfl (by decide)
theorem dX8_isWord_82 : decode cX8_isWord 82 = .ok (.iload_n 2, 1) := dk_28 (blk_at bk_cX8_isWord_79 3 rfl)
theorem dX8_isWord_83 : decode cX8_isWord 83 = .ok (.ireturn, 1) := dk_172 (blk_at bk_cX8_isWord_79 4 rfl)
theorem bk_cX8_eats_0 : (cX8_eats.data.toList.drop 0).take 16 = [42, 43, 182, 0, 147, 154, 0, 5, 3, 172, 42, 182, 0, 151, 4, 172] := by decide +kernel
theorem dX8_eats_0 : decode cX8_eats 0 = .ok (.aload_n 0, 1) := dk_42 (blk_at bk_cX8_eats_0 0 rfl)
theorem dX8_eats_1 : decode cX8_eats 1 = .ok (.aload_n 1, 1) := dk_43 (blk_at bk_cX8_eats_0 1 rfl)
theorem dX8_eats_2 : decode cX8_eats 2 = .ok (.invokevirtual 147, 3) := dq_182 bk_cX8_eats_0 2 rfl rfl
theorem dX8_eats_5 : decode cX8_eats 5 = .ok (.ifCond .ne 5, 3) := dq_154 bk_cX8_eats_0 5 rfl (by decide)
theorem dX8_eats_8 : decode cX8_eats 8 = .ok (.iconst 0, 1) := dk_3 (blk_at bk_cX8_eats_0 8 rfl)
theorem dX8_eats_9 : decode cX8_eats 9 = .ok (.ireturn, 1) := dk_172 (blk_at bk_cX8_eats_0 9 rfl)
theorem dX8_eats_10 : decode cX8_eats 10 = .ok (.aload_n 0, 1) := dk_42 (blk_at bk_cX8_eats_0 10 rfl)
theorem dX8_eats_11 : decode cX8_eats 11 = .ok (.invokevirtual 151, 3) := dq_182 bk_cX8_eats_0 11 rfl rfl
theorem dX8_eats_14 : decode cX8_eats 14 = .ok (.iconst 1, 1) := dk_4 (blk_at bk_cX8_eats_0 14 rfl)
theorem dX8_eats_15 : decode cX8_eats 15 = .ok (.ireturn, 1) := dk_172 (blk_at bk_cX8_eats_0 15 rfl)
theorem bk_cX8_passes_0 : (cX8_passes.data.toList.drop 0).take 18 = [42, 43, 182, 0, 154, 154, 0, 12, 42, 4, 42, 180, 0, 116, 182, 0, 157, 177] := by decide +kernel
theorem dX8_passes_0 : decode cX8_passes 0 = .ok (.aload_n 0, 1) := dk_42 (blk_at bk_cX8_passes_0 0 rfl)
theorem dX8_passes_1 : decode cX8_passes 1 = .ok (.aload_n 1, 1) := dk_43 (blk_at bk_cX8_passes_0 1 rfl)
theorem dX8_passes_2 : decode cX8_passes 2 = .ok (.invokevirtual 154, 3) := dq_182 bk_cX8_passes_0 2 rfl rfl
theorem dX8_passes_5 : decode cX8_passes 5 = .ok (.ifCond .ne 12, 3) := dq_154 bk_cX8_passes_0 5 rfl (by decide)
theorem dX8_passes_8 : decode cX8_passes 8 = .ok (.aload_n 0, 1) := dk_42 (blk_at bk_cX8_passes_0 8 rfl)
theorem dX8_passes_9 : decode cX8_passes 9 = .ok (.iconst 1, 1) := dk_4 (blk_at bk_cX8_passes_0 9 rfl)
theorem dX8_passes_10 : decode cX8_passes 10 = .ok (.aload_n 0, 1) := dk_42 (blk_at bk_cX8_passes_0 10 rfl)
theorem dX8_passes_11 : decode cX8_passes 11 = .ok (.getfield 116, 3) := dq_180 bk_cX8_passes_0 11 rfl rfl
theorem dX8_passes_14 : decode cX8_passes 14 = .ok (.invokevirtual 157, 3) := dq_182 bk_cX8_passes_0 14 rfl rfl
theorem dX8_passes_17 : decode cX8_passes 17 = .ok (.return_, 1) := dk_177 (blk_at bk_cX8_passes_0 17 rfl)
theorem bk_cX8_isByte_0 : (cX8_isByte.data.toList.drop 0).take 29 = [42, 182, 0, 104, 153, 0, 23, 42, 180, 0, 119, 6, 160, 0, 15, 42, 180, 0, 130, 27, 160, 0, 7, 4, 167, 0, 4, 3, 172] := by decide +kernel
theorem dX8_isByte_0 : decode cX8_isByte 0 = .ok (.aload_n 0, 1) := dk_42 (blk_at bk_cX8_isByte_0 0 rfl)
theorem dX8_isByte_1 : decode cX8_isByte 1 = .ok (.invokevirtual 104, 3) := dq_182 bk_cX8_isByte_0 1 rfl rfl
theorem dX8_isByte_4 : decode cX8_isByte 4 = .ok (.ifCond .eq 23, 3) := dq_153 bk_cX8_isByte_0 4 rfl (by decide)
theorem dX8_isByte_7 : decode cX8_isByte 7 = .ok (.aload_n 0, 1) := dk_42 (blk_at bk_cX8_isByte_0 7 rfl)
theorem dX8_isByte_8 : decode cX8_isByte 8 = .ok (.getfield 119, 3) := dq_180 bk_cX8_isByte_0 8 rfl rfl
theorem dX8_isByte_11 : decode cX8_isByte 11 = .ok (.iconst 3, 1) := dk_6 (blk_at bk_cX8_isByte_0 11 rfl)
theorem dX8_isByte_12 : decode cX8_isByte 12 = .ok (.if_icmp .ne 15, 3) := dq_160 bk_cX8_isByte_0 12 rfl (by decide)
theorem dX8_isByte_15 : decode cX8_isByte 15 = .ok (.aload_n 0, 1) := dk_42 (blk_at bk_cX8_isByte_0 15 rfl)
theorem dX8_isByte_16 : decode cX8_isByte 16 = .ok (.getfield 130, 3) := dq_180 bk_cX8_isByte_0 16 rfl rfl
theorem dX8_isByte_19 : decode cX8_isByte 19 = .ok (.iload_n 1, 1) := dk_27 (blk_at bk_cX8_isByte_0 19 rfl)
theorem dX8_isByte_20 : decode cX8_isByte 20 = .ok (.if_icmp .ne 7, 3) := dq_160 bk_cX8_isByte_0 20 rfl (by decide)
theorem dX8_isByte_23 : decode cX8_isByte 23 = .ok (.iconst 1, 1) := dk_4 (blk_at bk_cX8_isByte_0 23 rfl)
theorem dX8_isByte_24 : decode cX8_isByte 24 = .ok (.goto 4, 3) := dq_167 bk_cX8_isByte_0 24 rfl (by decide)
theorem dX8_isByte_27 : decode cX8_isByte 27 = .ok (.iconst 0, 1) := dk_3 (blk_at bk_cX8_isByte_0 27 rfl)
theorem dX8_isByte_28 : decode cX8_isByte 28 = .ok (.ireturn, 1) := dk_172 (blk_at bk_cX8_isByte_0 28 rfl)
theorem bk_cX8_passesByte_0 : (cX8_passesByte.data.toList.drop 0).take 29 = [42, 27, 182, 0, 161, 154, 0, 12, 42, 4, 42, 180, 0, 116, 182, 0, 157, 42, 182, 0, 104, 153, 0, 7, 42, 182, 0, 151, 177] := by decide +kernel
theorem dX8_passesByte_0 : decode cX8_passesByte 0 = .ok (.aload_n 0, 1) := dk_42 (blk_at bk_cX8_passesByte_0 0 rfl)
theorem dX8_passesByte_1 : decode cX8_passesByte 1 = .ok (.iload_n 1, 1) := dk_27 (blk_at bk_cX8_passesByte_0 1 rfl)
theorem dX8_passesByte_2 : decode cX8_passesByte 2 = .ok (.invokevirtual 161, 3) := dq_182 bk_cX8_passesByte_0 2 rfl rfl
theorem dX8_passesByte_5 : decode cX8_passesByte 5 = .ok (.ifCond .ne 12, 3) := dq_154 bk_cX8_passesByte_0 5 rfl (by decide)
theorem dX8_passesByte_8 : decode cX8_passesByte 8 = .ok (.aload_n 0, 1) := dk_42 (blk_at bk_cX8_passesByte_0 8 rfl)
theorem dX8_passesByte_9 : decode cX8_passesByte 9 = .ok (.iconst 1, 1) := dk_4 (blk_at bk_cX8_passesByte_0 9 rfl)
theorem dX8_passesByte_10 : decode cX8_passesByte 10 = .ok (.aload_n 0, 1) := dk_42 (blk_at bk_cX8_passesByte_0 10 rfl)
theorem dX8_passesByte_11 : decode cX8_passesByte 11 = .ok (.getfield 116, 3) := dq_180 bk_cX8_passesByte_0 11 rfl rfl
theorem dX8_passesByte_14 : decode cX8_passesByte 14 = .ok (.invokevirtual 157, 3) := dq_182 bk_cX8_passesByte_0 14 rfl rfl
theorem dX8_passesByte_17 : decode cX8_passesByte 17 = .ok (.aload_n 0, 1) := dk_42 (blk_at bk_cX8_passesByte_0 17 rfl)
theorem dX8_passesByte_18 : decode cX8_passesByte 18 = .ok (.invokevirtual 104, 3) := dq_182 bk_cX8_passesByte_0 18 rfl rfl
theorem dX8_passesByte_21 : decode cX8_passesByte 21 = .ok (.ifCond .eq 7, 3) := dq_153 bk_cX8_passesByte_0 21 rfl (by decide)
theorem dX8_passesByte_24 : decode cX8_passesByte 24 = .ok (.aload_n 0, 1) := dk_42 (blk_at bk_cX8_passesByte_0 24 rfl)
theorem dX8_passesByte_25 : decode cX8_passesByte 25 = .ok (.invokevirtual 151, 3) := dq_182 bk_cX8_passesByte_0 25 rfl rfl
theorem dX8_passesByte_28 : decode cX8_passesByte 28 = .ok (.return_, 1) := dk_177 (blk_at bk_cX8_passesByte_0 28 rfl)
theorem bk_cX8_number_0 : (cX8_number.data.toList.drop 0).take 40 = [42, 182, 0, 104, 153, 0, 20, 42, 180, 0, 119, 5, 159, 0, 12, 42, 4, 42, 180, 0, 116, 182, 0, 157, 42, 182, 0, 104, 153, 0, 27, 42, 180, 0, 130, 133, 27, 133, 28, 133] := by decide +kernel
theorem dX8_number_0 : decode cX8_number 0 = .ok (.aload_n 0, 1) := dk_42 (blk_at bk_cX8_number_0 0 rfl)
theorem dX8_number_1 : decode cX8_number 1 = .ok (.invokevirtual 104, 3) := dq_182 bk_cX8_number_0 1 rfl rfl
theorem dX8_number_4 : decode cX8_number 4 = .ok (.ifCond .eq 20, 3) := dq_153 bk_cX8_number_0 4 rfl (by decide)
theorem dX8_number_7 : decode cX8_number 7 = .ok (.aload_n 0, 1) := dk_42 (blk_at bk_cX8_number_0 7 rfl)
theorem dX8_number_8 : decode cX8_number 8 = .ok (.getfield 119, 3) := dq_180 bk_cX8_number_0 8 rfl rfl
theorem dX8_number_11 : decode cX8_number 11 = .ok (.iconst 2, 1) := dk_5 (blk_at bk_cX8_number_0 11 rfl)
theorem dX8_number_12 : decode cX8_number 12 = .ok (.if_icmp .eq 12, 3) := dq_159 bk_cX8_number_0 12 rfl (by decide)
theorem dX8_number_15 : decode cX8_number 15 = .ok (.aload_n 0, 1) := dk_42 (blk_at bk_cX8_number_0 15 rfl)
theorem dX8_number_16 : decode cX8_number 16 = .ok (.iconst 1, 1) := dk_4 (blk_at bk_cX8_number_0 16 rfl)
theorem dX8_number_17 : decode cX8_number 17 = .ok (.aload_n 0, 1) := dk_42 (blk_at bk_cX8_number_0 17 rfl)
theorem dX8_number_18 : decode cX8_number 18 = .ok (.getfield 116, 3) := dq_180 bk_cX8_number_0 18 rfl rfl
theorem dX8_number_21 : decode cX8_number 21 = .ok (.invokevirtual 157, 3) := dq_182 bk_cX8_number_0 21 rfl rfl
theorem dX8_number_24 : decode cX8_number 24 = .ok (.aload_n 0, 1) := dk_42 (blk_at bk_cX8_number_0 24 rfl)
theorem dX8_number_25 : decode cX8_number 25 = .ok (.invokevirtual 104, 3) := dq_182 bk_cX8_number_0 25 rfl rfl
theorem dX8_number_28 : decode cX8_number 28 = .ok (.ifCond .eq 27, 3) := dq_153 bk_cX8_number_0 28 rfl (by decide)
theorem dX8_number_31 : decode cX8_number 31 = .ok (.aload_n 0, 1) := dk_42 (blk_at bk_cX8_number_0 31 rfl)
theorem dX8_number_32 : decode cX8_number 32 = .ok (.getfield 130, 3) := dq_180 bk_cX8_number_0 32 rfl rfl
theorem dX8_number_35 : decode cX8_number 35 = .ok (.i2l, 1) := dk_133 (blk_at bk_cX8_number_0 35 rfl)
theorem dX8_number_36 : decode cX8_number 36 = .ok (.iload_n 1, 1) := dk_27 (blk_at bk_cX8_number_0 36 rfl)
theorem dX8_number_37 : decode cX8_number 37 = .ok (.i2l, 1) := dk_133 (blk_at bk_cX8_number_0 37 rfl)
theorem dX8_number_38 : decode cX8_number 38 = .ok (.iload_n 2, 1) := dk_28 (blk_at bk_cX8_number_0 38 rfl)
theorem dX8_number_39 : decode cX8_number 39 = .ok (.i2l, 1) := dk_133 (blk_at bk_cX8_number_0 39 rfl)
theorem bk_cX8_number_40 : (cX8_number.data.toList.drop 40).take 39 = [184, 0, 45, 154, 0, 12, 42, 5, 42, 180, 0, 116, 182, 0, 157, 42, 180, 0, 130, 62, 42, 182, 0, 104, 153, 0, 7, 42, 182, 0, 151, 42, 182, 0, 104, 153, 0, 7, 29] := by decide +kernel
theorem dX8_number_40 : decode cX8_number 40 = .ok (.invokestatic 45, 3) := dq_184 bk_cX8_number_40 0 rfl rfl
theorem dX8_number_43 : decode cX8_number 43 = .ok (.ifCond .ne 12, 3) := dq_154 bk_cX8_number_40 3 rfl (by decide)
theorem dX8_number_46 : decode cX8_number 46 = .ok (.aload_n 0, 1) := dk_42 (blk_at bk_cX8_number_40 6 rfl)
theorem dX8_number_47 : decode cX8_number 47 = .ok (.iconst 2, 1) := dk_5 (blk_at bk_cX8_number_40 7 rfl)
theorem dX8_number_48 : decode cX8_number 48 = .ok (.aload_n 0, 1) := dk_42 (blk_at bk_cX8_number_40 8 rfl)
theorem dX8_number_49 : decode cX8_number 49 = .ok (.getfield 116, 3) := dq_180 bk_cX8_number_40 9 rfl rfl
theorem dX8_number_52 : decode cX8_number 52 = .ok (.invokevirtual 157, 3) := dq_182 bk_cX8_number_40 12 rfl rfl
theorem dX8_number_55 : decode cX8_number 55 = .ok (.aload_n 0, 1) := dk_42 (blk_at bk_cX8_number_40 15 rfl)
theorem dX8_number_56 : decode cX8_number 56 = .ok (.getfield 130, 3) := dq_180 bk_cX8_number_40 16 rfl rfl
theorem dX8_number_59 : decode cX8_number 59 = .ok (.istore_n 3, 1) := dk_62 (blk_at bk_cX8_number_40 19 rfl)
theorem dX8_number_60 : decode cX8_number 60 = .ok (.aload_n 0, 1) := dk_42 (blk_at bk_cX8_number_40 20 rfl)
theorem dX8_number_61 : decode cX8_number 61 = .ok (.invokevirtual 104, 3) := dq_182 bk_cX8_number_40 21 rfl rfl
theorem dX8_number_64 : decode cX8_number 64 = .ok (.ifCond .eq 7, 3) := dq_153 bk_cX8_number_40 24 rfl (by decide)
theorem dX8_number_67 : decode cX8_number 67 = .ok (.aload_n 0, 1) := dk_42 (blk_at bk_cX8_number_40 27 rfl)
theorem dX8_number_68 : decode cX8_number 68 = .ok (.invokevirtual 151, 3) := dq_182 bk_cX8_number_40 28 rfl rfl
theorem dX8_number_71 : decode cX8_number 71 = .ok (.aload_n 0, 1) := dk_42 (blk_at bk_cX8_number_40 31 rfl)
theorem dX8_number_72 : decode cX8_number 72 = .ok (.invokevirtual 104, 3) := dq_182 bk_cX8_number_40 32 rfl rfl
theorem dX8_number_75 : decode cX8_number 75 = .ok (.ifCond .eq 7, 3) := dq_153 bk_cX8_number_40 35 rfl (by decide)
theorem dX8_number_78 : decode cX8_number 78 = .ok (.iload_n 3, 1) := dk_29 (blk_at bk_cX8_number_40 38 rfl)
theorem bk_cX8_number_79 : (cX8_number.data.toList.drop 79).take 5 = [167, 0, 4, 3, 172] := by decide +kernel
theorem dX8_number_79 : decode cX8_number 79 = .ok (.goto 4, 3) := dq_167 bk_cX8_number_79 0 rfl (by decide)
theorem dX8_number_82 : decode cX8_number 82 = .ok (.iconst 0, 1) := dk_3 (blk_at bk_cX8_number_79 3 rfl)
theorem dX8_number_83 : decode cX8_number 83 = .ok (.ireturn, 1) := dk_172 (blk_at bk_cX8_number_79 4 rfl)
theorem dX8_dayOf_1 : decode cX8_dayOf 1 = .ok (.tableswitch 57 0 5 #[39, 42, 45, 48, 51, 54], 39) := by decide +kernel
theorem bk_cX8_dayOf_0 : (cX8_dayOf.data.toList.drop 0).take 1 = [26] := by decide +kernel
theorem dX8_dayOf_0 : decode cX8_dayOf 0 = .ok (.iload_n 0, 1) := dk_26 (blk_at bk_cX8_dayOf_0 0 rfl)
theorem bk_cX8_dayOf_40 : (cX8_dayOf.data.toList.drop 40).take 21 = [18, 164, 176, 18, 166, 176, 18, 168, 176, 18, 170, 176, 18, 172, 176, 18, 174, 176, 18, 176, 176] := by decide +kernel
theorem dX8_dayOf_40 : decode cX8_dayOf 40 = .ok (.ldc 164, 2) := dq_18 bk_cX8_dayOf_40 0 rfl rfl
theorem dX8_dayOf_42 : decode cX8_dayOf 42 = .ok (.areturn, 1) := dk_176 (blk_at bk_cX8_dayOf_40 2 rfl)
theorem dX8_dayOf_43 : decode cX8_dayOf 43 = .ok (.ldc 166, 2) := dq_18 bk_cX8_dayOf_40 3 rfl rfl
theorem dX8_dayOf_45 : decode cX8_dayOf 45 = .ok (.areturn, 1) := dk_176 (blk_at bk_cX8_dayOf_40 5 rfl)
theorem dX8_dayOf_46 : decode cX8_dayOf 46 = .ok (.ldc 168, 2) := dq_18 bk_cX8_dayOf_40 6 rfl rfl
theorem dX8_dayOf_48 : decode cX8_dayOf 48 = .ok (.areturn, 1) := dk_176 (blk_at bk_cX8_dayOf_40 8 rfl)
theorem dX8_dayOf_49 : decode cX8_dayOf 49 = .ok (.ldc 170, 2) := dq_18 bk_cX8_dayOf_40 9 rfl rfl
theorem dX8_dayOf_51 : decode cX8_dayOf 51 = .ok (.areturn, 1) := dk_176 (blk_at bk_cX8_dayOf_40 11 rfl)
theorem dX8_dayOf_52 : decode cX8_dayOf 52 = .ok (.ldc 172, 2) := dq_18 bk_cX8_dayOf_40 12 rfl rfl
theorem dX8_dayOf_54 : decode cX8_dayOf 54 = .ok (.areturn, 1) := dk_176 (blk_at bk_cX8_dayOf_40 14 rfl)
theorem dX8_dayOf_55 : decode cX8_dayOf 55 = .ok (.ldc 174, 2) := dq_18 bk_cX8_dayOf_40 15 rfl rfl
theorem dX8_dayOf_57 : decode cX8_dayOf 57 = .ok (.areturn, 1) := dk_176 (blk_at bk_cX8_dayOf_40 17 rfl)
theorem dX8_dayOf_58 : decode cX8_dayOf 58 = .ok (.ldc 176, 2) := dq_18 bk_cX8_dayOf_40 18 rfl rfl
theorem dX8_dayOf_60 : decode cX8_dayOf 60 = .ok (.areturn, 1) := dk_176 (blk_at bk_cX8_dayOf_40 20 rfl)
theorem bk_cX8_dayHere_0 : (cX8_dayHere.data.toList.drop 0).take 29 = [3, 60, 27, 16, 7, 162, 0, 22, 42, 27, 184, 0, 178, 182, 0, 147, 153, 0, 5, 27, 172, 132, 1, 1, 167, 255, 234, 2, 172] := by decide +kernel
theorem dX8_dayHere_0 : decode cX8_dayHere 0 = .ok (.iconst 0, 1) := dk_3 (blk_at bk_cX8_dayHere_0 0 rfl)
theorem dX8_dayHere_1 : decode cX8_dayHere 1 = .ok (.istore_n 1, 1) := dk_60 (blk_at bk_cX8_dayHere_0 1 rfl)
theorem dX8_dayHere_2 : decode cX8_dayHere 2 = .ok (.iload_n 1, 1) := dk_27 (blk_at bk_cX8_dayHere_0 2 rfl)
theorem dX8_dayHere_3 : decode cX8_dayHere 3 = .ok (.bipush 7, 2) := dq_16 bk_cX8_dayHere_0 3 rfl (by decide)
theorem dX8_dayHere_5 : decode cX8_dayHere 5 = .ok (.if_icmp .ge 22, 3) := dq_162 bk_cX8_dayHere_0 5 rfl (by decide)
theorem dX8_dayHere_8 : decode cX8_dayHere 8 = .ok (.aload_n 0, 1) := dk_42 (blk_at bk_cX8_dayHere_0 8 rfl)
theorem dX8_dayHere_9 : decode cX8_dayHere 9 = .ok (.iload_n 1, 1) := dk_27 (blk_at bk_cX8_dayHere_0 9 rfl)
theorem dX8_dayHere_10 : decode cX8_dayHere 10 = .ok (.invokestatic 178, 3) := dq_184 bk_cX8_dayHere_0 10 rfl rfl
theorem dX8_dayHere_13 : decode cX8_dayHere 13 = .ok (.invokevirtual 147, 3) := dq_182 bk_cX8_dayHere_0 13 rfl rfl
theorem dX8_dayHere_16 : decode cX8_dayHere 16 = .ok (.ifCond .eq 5, 3) := dq_153 bk_cX8_dayHere_0 16 rfl (by decide)
theorem dX8_dayHere_19 : decode cX8_dayHere 19 = .ok (.iload_n 1, 1) := dk_27 (blk_at bk_cX8_dayHere_0 19 rfl)
theorem dX8_dayHere_20 : decode cX8_dayHere 20 = .ok (.ireturn, 1) := dk_172 (blk_at bk_cX8_dayHere_0 20 rfl)
theorem dX8_dayHere_21 : decode cX8_dayHere 21 = .ok (.iinc 1 1, 3) := dq_132 bk_cX8_dayHere_0 21 rfl rfl (by decide)
theorem dX8_dayHere_24 : decode cX8_dayHere 24 = .ok (.goto (-22), 3) := dq_167 bk_cX8_dayHere_0 24 rfl (by decide)
theorem dX8_dayHere_27 : decode cX8_dayHere 27 = .ok (.iconst (-1), 1) := dk_2 (blk_at bk_cX8_dayHere_0 27 rfl)
theorem dX8_dayHere_28 : decode cX8_dayHere 28 = .ok (.ireturn, 1) := dk_172 (blk_at bk_cX8_dayHere_0 28 rfl)
theorem bk_cX8_isOwn_0 : (cX8_isOwn.data.toList.drop 0).take 38 = [42, 182, 0, 182, 2, 160, 0, 84, 42, 18, 185, 182, 0, 147, 154, 0, 75, 42, 18, 187, 182, 0, 147, 154, 0, 66, 42, 18, 189, 182, 0, 147, 154, 0, 57, 42, 18, 191] := by decide +kernel
theorem dX8_isOwn_0 : decode cX8_isOwn 0 = .ok (.aload_n 0, 1) := dk_42 (blk_at bk_cX8_isOwn_0 0 rfl)
theorem dX8_isOwn_1 : decode cX8_isOwn 1 = .ok (.invokevirtual 182, 3) := dq_182 bk_cX8_isOwn_0 1 rfl rfl
theorem dX8_isOwn_4 : decode cX8_isOwn 4 = .ok (.iconst (-1), 1) := dk_2 (blk_at bk_cX8_isOwn_0 4 rfl)
theorem dX8_isOwn_5 : decode cX8_isOwn 5 = .ok (.if_icmp .ne 84, 3) := dq_160 bk_cX8_isOwn_0 5 rfl (by decide)
theorem dX8_isOwn_8 : decode cX8_isOwn 8 = .ok (.aload_n 0, 1) := dk_42 (blk_at bk_cX8_isOwn_0 8 rfl)
theorem dX8_isOwn_9 : decode cX8_isOwn 9 = .ok (.ldc 185, 2) := dq_18 bk_cX8_isOwn_0 9 rfl rfl
theorem dX8_isOwn_11 : decode cX8_isOwn 11 = .ok (.invokevirtual 147, 3) := dq_182 bk_cX8_isOwn_0 11 rfl rfl
theorem dX8_isOwn_14 : decode cX8_isOwn 14 = .ok (.ifCond .ne 75, 3) := dq_154 bk_cX8_isOwn_0 14 rfl (by decide)
theorem dX8_isOwn_17 : decode cX8_isOwn 17 = .ok (.aload_n 0, 1) := dk_42 (blk_at bk_cX8_isOwn_0 17 rfl)
theorem dX8_isOwn_18 : decode cX8_isOwn 18 = .ok (.ldc 187, 2) := dq_18 bk_cX8_isOwn_0 18 rfl rfl
theorem dX8_isOwn_20 : decode cX8_isOwn 20 = .ok (.invokevirtual 147, 3) := dq_182 bk_cX8_isOwn_0 20 rfl rfl
theorem dX8_isOwn_23 : decode cX8_isOwn 23 = .ok (.ifCond .ne 66, 3) := dq_154 bk_cX8_isOwn_0 23 rfl (by decide)
theorem dX8_isOwn_26 : decode cX8_isOwn 26 = .ok (.aload_n 0, 1) := dk_42 (blk_at bk_cX8_isOwn_0 26 rfl)
theorem dX8_isOwn_27 : decode cX8_isOwn 27 = .ok (.ldc 189, 2) := dq_18 bk_cX8_isOwn_0 27 rfl rfl
theorem dX8_isOwn_29 : decode cX8_isOwn 29 = .ok (.invokevirtual 147, 3) := dq_182 bk_cX8_isOwn_0 29 rfl rfl
theorem dX8_isOwn_32 : decode cX8_isOwn 32 = .ok (.ifCond .ne 57, 3) := dq_154 bk_cX8_isOwn_0 32 rfl (by decide)
theorem dX8_isOwn_35 : decode cX8_isOwn 35 = .ok (.aload_n 0, 1) := dk_42 (blk_at bk_cX8_isOwn_0 35 rfl)
theorem dX8_isOwn_36 : decode cX8_isOwn 36 = .ok (.ldc 191, 2) := dq_18 bk_cX8_isOwn_0 36 rfl rfl
theorem bk_cX8_isOwn_38 : (cX8_isOwn.data.toList.drop 38).take 39 = [182, 0, 147, 154, 0, 48, 42, 18, 193, 182, 0, 147, 154, 0, 39, 42, 18, 195, 182, 0, 147, 154, 0, 30, 42, 18, 196, 182, 0, 147, 154, 0, 21, 42, 18, 197, 182, 0, 147] := by decide +kernel
theorem dX8_isOwn_38 : decode cX8_isOwn 38 = .ok (.invokevirtual 147, 3) := dq_182 bk_cX8_isOwn_38 0 rfl rfl
theorem dX8_isOwn_41 : decode cX8_isOwn 41 = .ok (.ifCond .ne 48, 3) := dq_154 bk_cX8_isOwn_38 3 rfl (by decide)
theorem dX8_isOwn_44 : decode cX8_isOwn 44 = .ok (.aload_n 0, 1) := dk_42 (blk_at bk_cX8_isOwn_38 6 rfl)
theorem dX8_isOwn_45 : decode cX8_isOwn 45 = .ok (.ldc 193, 2) := dq_18 bk_cX8_isOwn_38 7 rfl rfl
theorem dX8_isOwn_47 : decode cX8_isOwn 47 = .ok (.invokevirtual 147, 3) := dq_182 bk_cX8_isOwn_38 9 rfl rfl
theorem dX8_isOwn_50 : decode cX8_isOwn 50 = .ok (.ifCond .ne 39, 3) := dq_154 bk_cX8_isOwn_38 12 rfl (by decide)
theorem dX8_isOwn_53 : decode cX8_isOwn 53 = .ok (.aload_n 0, 1) := dk_42 (blk_at bk_cX8_isOwn_38 15 rfl)
theorem dX8_isOwn_54 : decode cX8_isOwn 54 = .ok (.ldc 195, 2) := dq_18 bk_cX8_isOwn_38 16 rfl rfl
theorem dX8_isOwn_56 : decode cX8_isOwn 56 = .ok (.invokevirtual 147, 3) := dq_182 bk_cX8_isOwn_38 18 rfl rfl
theorem dX8_isOwn_59 : decode cX8_isOwn 59 = .ok (.ifCond .ne 30, 3) := dq_154 bk_cX8_isOwn_38 21 rfl (by decide)
theorem dX8_isOwn_62 : decode cX8_isOwn 62 = .ok (.aload_n 0, 1) := dk_42 (blk_at bk_cX8_isOwn_38 24 rfl)
theorem dX8_isOwn_63 : decode cX8_isOwn 63 = .ok (.ldc 196, 2) := dq_18 bk_cX8_isOwn_38 25 rfl rfl
theorem dX8_isOwn_65 : decode cX8_isOwn 65 = .ok (.invokevirtual 147, 3) := dq_182 bk_cX8_isOwn_38 27 rfl rfl
theorem dX8_isOwn_68 : decode cX8_isOwn 68 = .ok (.ifCond .ne 21, 3) := dq_154 bk_cX8_isOwn_38 30 rfl (by decide)
theorem dX8_isOwn_71 : decode cX8_isOwn 71 = .ok (.aload_n 0, 1) := dk_42 (blk_at bk_cX8_isOwn_38 33 rfl)
theorem dX8_isOwn_72 : decode cX8_isOwn 72 = .ok (.ldc 197, 2) := dq_18 bk_cX8_isOwn_38 34 rfl rfl
theorem dX8_isOwn_74 : decode cX8_isOwn 74 = .ok (.invokevirtual 147, 3) := dq_182 bk_cX8_isOwn_38 36 rfl rfl
theorem bk_cX8_isOwn_77 : (cX8_isOwn.data.toList.drop 77).take 18 = [154, 0, 12, 42, 18, 199, 182, 0, 147, 153, 0, 7, 4, 167, 0, 4, 3, 172] := by decide +kernel
theorem dX8_isOwn_77 : decode cX8_isOwn 77 = .ok (.ifCond .ne 12, 3) := dq_154 bk_cX8_isOwn_77 0 rfl (by decide)
theorem dX8_isOwn_80 : decode cX8_isOwn 80 = .ok (.aload_n 0, 1) := dk_42 (blk_at bk_cX8_isOwn_77 3 rfl)
theorem dX8_isOwn_81 : decode cX8_isOwn 81 = .ok (.ldc 199, 2) := dq_18 bk_cX8_isOwn_77 4 rfl rfl
theorem dX8_isOwn_83 : decode cX8_isOwn 83 = .ok (.invokevirtual 147, 3) := dq_182 bk_cX8_isOwn_77 6 rfl rfl
theorem dX8_isOwn_86 : decode cX8_isOwn 86 = .ok (.ifCond .eq 7, 3) := dq_153 bk_cX8_isOwn_77 9 rfl (by decide)
theorem dX8_isOwn_89 : decode cX8_isOwn 89 = .ok (.iconst 1, 1) := dk_4 (blk_at bk_cX8_isOwn_77 12 rfl)
theorem dX8_isOwn_90 : decode cX8_isOwn 90 = .ok (.goto 4, 3) := dq_167 bk_cX8_isOwn_77 13 rfl (by decide)
theorem dX8_isOwn_93 : decode cX8_isOwn 93 = .ok (.iconst 0, 1) := dk_3 (blk_at bk_cX8_isOwn_77 16 rfl)
theorem dX8_isOwn_94 : decode cX8_isOwn 94 = .ok (.ireturn, 1) := dk_172 (blk_at bk_cX8_isOwn_77 17 rfl)
theorem bk_cX8_packed_0 : (cX8_packed.data.toList.drop 0).take 38 = [3, 62, 3, 54, 4, 21, 4, 16, 6, 162, 0, 41, 16, 27, 29, 104, 27, 21, 4, 96, 28, 162, 0, 20, 42, 180, 0, 19, 27, 21, 4, 96, 51, 16, 97, 100, 4, 96] := by decide +kernel
theorem dX8_packed_0 : decode cX8_packed 0 = .ok (.iconst 0, 1) := dk_3 (blk_at bk_cX8_packed_0 0 rfl)
theorem dX8_packed_1 : decode cX8_packed 1 = .ok (.istore_n 3, 1) := dk_62 (blk_at bk_cX8_packed_0 1 rfl)
theorem dX8_packed_2 : decode cX8_packed 2 = .ok (.iconst 0, 1) := dk_3 (blk_at bk_cX8_packed_0 2 rfl)
theorem dX8_packed_3 : decode cX8_packed 3 = .ok (.istore 4, 2) := dq_54 bk_cX8_packed_0 3 rfl rfl
theorem dX8_packed_5 : decode cX8_packed 5 = .ok (.iload 4, 2) := dq_21 bk_cX8_packed_0 5 rfl rfl
theorem dX8_packed_7 : decode cX8_packed 7 = .ok (.bipush 6, 2) := dq_16 bk_cX8_packed_0 7 rfl (by decide)
theorem dX8_packed_9 : decode cX8_packed 9 = .ok (.if_icmp .ge 41, 3) := dq_162 bk_cX8_packed_0 9 rfl (by decide)
theorem dX8_packed_12 : decode cX8_packed 12 = .ok (.bipush 27, 2) := dq_16 bk_cX8_packed_0 12 rfl (by decide)
theorem dX8_packed_14 : decode cX8_packed 14 = .ok (.iload_n 3, 1) := dk_29 (blk_at bk_cX8_packed_0 14 rfl)
theorem dX8_packed_15 : decode cX8_packed 15 = .ok (.imul, 1) := dk_104 (blk_at bk_cX8_packed_0 15 rfl)
theorem dX8_packed_16 : decode cX8_packed 16 = .ok (.iload_n 1, 1) := dk_27 (blk_at bk_cX8_packed_0 16 rfl)
theorem dX8_packed_17 : decode cX8_packed 17 = .ok (.iload 4, 2) := dq_21 bk_cX8_packed_0 17 rfl rfl
theorem dX8_packed_19 : decode cX8_packed 19 = .ok (.iadd, 1) := dk_96 (blk_at bk_cX8_packed_0 19 rfl)
theorem dX8_packed_20 : decode cX8_packed 20 = .ok (.iload_n 2, 1) := dk_28 (blk_at bk_cX8_packed_0 20 rfl)
theorem dX8_packed_21 : decode cX8_packed 21 = .ok (.if_icmp .ge 20, 3) := dq_162 bk_cX8_packed_0 21 rfl (by decide)
theorem dX8_packed_24 : decode cX8_packed 24 = .ok (.aload_n 0, 1) := dk_42 (blk_at bk_cX8_packed_0 24 rfl)
theorem dX8_packed_25 : decode cX8_packed 25 = .ok (.getfield 19, 3) := dq_180 bk_cX8_packed_0 25 rfl rfl
theorem dX8_packed_28 : decode cX8_packed 28 = .ok (.iload_n 1, 1) := dk_27 (blk_at bk_cX8_packed_0 28 rfl)
theorem dX8_packed_29 : decode cX8_packed 29 = .ok (.iload 4, 2) := dq_21 bk_cX8_packed_0 29 rfl rfl
theorem dX8_packed_31 : decode cX8_packed 31 = .ok (.iadd, 1) := dk_96 (blk_at bk_cX8_packed_0 31 rfl)
theorem dX8_packed_32 : decode cX8_packed 32 = .ok (.baload, 1) := dk_51 (blk_at bk_cX8_packed_0 32 rfl)
theorem dX8_packed_33 : decode cX8_packed 33 = .ok (.bipush 97, 2) := dq_16 bk_cX8_packed_0 33 rfl (by decide)
theorem dX8_packed_35 : decode cX8_packed 35 = .ok (.isub, 1) := dk_100 (blk_at bk_cX8_packed_0 35 rfl)
theorem dX8_packed_36 : decode cX8_packed 36 = .ok (.iconst 1, 1) := dk_4 (blk_at bk_cX8_packed_0 36 rfl)
theorem dX8_packed_37 : decode cX8_packed 37 = .ok (.iadd, 1) := dk_96 (blk_at bk_cX8_packed_0 37 rfl)
theorem bk_cX8_packed_38 : (cX8_packed.data.toList.drop 38).take 14 = [167, 0, 4, 3, 96, 62, 132, 4, 1, 167, 255, 214, 29, 172] := by decide +kernel
theorem dX8_packed_38 : decode cX8_packed 38 = .ok (.goto 4, 3) := dq_167 bk_cX8_packed_38 0 rfl (by decide)
theorem dX8_packed_41 : decode cX8_packed 41 = .ok (.iconst 0, 1) := dk_3 (blk_at bk_cX8_packed_38 3 rfl)
theorem dX8_packed_42 : decode cX8_packed 42 = .ok (.iadd, 1) := dk_96 (blk_at bk_cX8_packed_38 4 rfl)
theorem dX8_packed_43 : decode cX8_packed 43 = .ok (.istore_n 3, 1) := dk_62 (blk_at bk_cX8_packed_38 5 rfl)
theorem dX8_packed_44 : decode cX8_packed 44 = .ok (.iinc 4 1, 3) := dq_132 bk_cX8_packed_38 6 rfl rfl (by decide)
theorem dX8_packed_47 : decode cX8_packed 47 = .ok (.goto (-42), 3) := dq_167 bk_cX8_packed_38 9 rfl (by decide)
theorem dX8_packed_50 : decode cX8_packed 50 = .ok (.iload_n 3, 1) := dk_29 (blk_at bk_cX8_packed_38 12 rfl)
theorem dX8_packed_51 : decode cX8_packed 51 = .ok (.ireturn, 1) := dk_172 (blk_at bk_cX8_packed_38 13 rfl)
theorem bk_cX8_nameHere_0 : (cX8_nameHere.data.toList.drop 0).take 39 = [42, 182, 0, 104, 153, 0, 41, 42, 180, 0, 119, 4, 160, 0, 24, 42, 180, 0, 110, 42, 180, 0, 116, 100, 16, 6, 163, 0, 10, 42, 182, 0, 201, 153, 0, 12, 42, 4, 42] := by decide +kernel
theorem dX8_nameHere_0 : decode cX8_nameHere 0 = .ok (.aload_n 0, 1) := dk_42 (blk_at bk_cX8_nameHere_0 0 rfl)
theorem dX8_nameHere_1 : decode cX8_nameHere 1 = .ok (.invokevirtual 104, 3) := dq_182 bk_cX8_nameHere_0 1 rfl rfl
theorem dX8_nameHere_4 : decode cX8_nameHere 4 = .ok (.ifCond .eq 41, 3) := dq_153 bk_cX8_nameHere_0 4 rfl (by decide)
theorem dX8_nameHere_7 : decode cX8_nameHere 7 = .ok (.aload_n 0, 1) := dk_42 (blk_at bk_cX8_nameHere_0 7 rfl)
theorem dX8_nameHere_8 : decode cX8_nameHere 8 = .ok (.getfield 119, 3) := dq_180 bk_cX8_nameHere_0 8 rfl rfl
theorem dX8_nameHere_11 : decode cX8_nameHere 11 = .ok (.iconst 1, 1) := dk_4 (blk_at bk_cX8_nameHere_0 11 rfl)
theorem dX8_nameHere_12 : decode cX8_nameHere 12 = .ok (.if_icmp .ne 24, 3) := dq_160 bk_cX8_nameHere_0 12 rfl (by decide)
theorem dX8_nameHere_15 : decode cX8_nameHere 15 = .ok (.aload_n 0, 1) := dk_42 (blk_at bk_cX8_nameHere_0 15 rfl)
theorem dX8_nameHere_16 : decode cX8_nameHere 16 = .ok (.getfield 110, 3) := dq_180 bk_cX8_nameHere_0 16 rfl rfl
theorem dX8_nameHere_19 : decode cX8_nameHere 19 = .ok (.aload_n 0, 1) := dk_42 (blk_at bk_cX8_nameHere_0 19 rfl)
theorem dX8_nameHere_20 : decode cX8_nameHere 20 = .ok (.getfield 116, 3) := dq_180 bk_cX8_nameHere_0 20 rfl rfl
theorem dX8_nameHere_23 : decode cX8_nameHere 23 = .ok (.isub, 1) := dk_100 (blk_at bk_cX8_nameHere_0 23 rfl)
theorem dX8_nameHere_24 : decode cX8_nameHere 24 = .ok (.bipush 6, 2) := dq_16 bk_cX8_nameHere_0 24 rfl (by decide)
theorem dX8_nameHere_26 : decode cX8_nameHere 26 = .ok (.if_icmp .gt 10, 3) := dq_163 bk_cX8_nameHere_0 26 rfl (by decide)
theorem dX8_nameHere_29 : decode cX8_nameHere 29 = .ok (.aload_n 0, 1) := dk_42 (blk_at bk_cX8_nameHere_0 29 rfl)
theorem dX8_nameHere_30 : decode cX8_nameHere 30 = .ok (.invokevirtual 201, 3) := dq_182 bk_cX8_nameHere_0 30 rfl rfl
theorem dX8_nameHere_33 : decode cX8_nameHere 33 = .ok (.ifCond .eq 12, 3) := dq_153 bk_cX8_nameHere_0 33 rfl (by decide)
theorem dX8_nameHere_36 : decode cX8_nameHere 36 = .ok (.aload_n 0, 1) := dk_42 (blk_at bk_cX8_nameHere_0 36 rfl)
theorem dX8_nameHere_37 : decode cX8_nameHere 37 = .ok (.iconst 1, 1) := dk_4 (blk_at bk_cX8_nameHere_0 37 rfl)
theorem dX8_nameHere_38 : decode cX8_nameHere 38 = .ok (.aload_n 0, 1) := dk_42 (blk_at bk_cX8_nameHere_0 38 rfl)
theorem bk_cX8_nameHere_39 : (cX8_nameHere.data.toList.drop 39).take 30 = [180, 0, 116, 182, 0, 157, 42, 182, 0, 104, 153, 0, 18, 42, 42, 180, 0, 116, 42, 180, 0, 110, 182, 0, 204, 167, 0, 4, 3, 172] := by decide +kernel
theorem dX8_nameHere_39 : decode cX8_nameHere 39 = .ok (.getfield 116, 3) := dq_180 bk_cX8_nameHere_39 0 rfl rfl
theorem dX8_nameHere_42 : decode cX8_nameHere 42 = .ok (.invokevirtual 157, 3) := dq_182 bk_cX8_nameHere_39 3 rfl rfl
theorem dX8_nameHere_45 : decode cX8_nameHere 45 = .ok (.aload_n 0, 1) := dk_42 (blk_at bk_cX8_nameHere_39 6 rfl)
theorem dX8_nameHere_46 : decode cX8_nameHere 46 = .ok (.invokevirtual 104, 3) := dq_182 bk_cX8_nameHere_39 7 rfl rfl
theorem dX8_nameHere_49 : decode cX8_nameHere 49 = .ok (.ifCond .eq 18, 3) := dq_153 bk_cX8_nameHere_39 10 rfl (by decide)
theorem dX8_nameHere_52 : decode cX8_nameHere 52 = .ok (.aload_n 0, 1) := dk_42 (blk_at bk_cX8_nameHere_39 13 rfl)
theorem dX8_nameHere_53 : decode cX8_nameHere 53 = .ok (.aload_n 0, 1) := dk_42 (blk_at bk_cX8_nameHere_39 14 rfl)
theorem dX8_nameHere_54 : decode cX8_nameHere 54 = .ok (.getfield 116, 3) := dq_180 bk_cX8_nameHere_39 15 rfl rfl
theorem dX8_nameHere_57 : decode cX8_nameHere 57 = .ok (.aload_n 0, 1) := dk_42 (blk_at bk_cX8_nameHere_39 18 rfl)
theorem dX8_nameHere_58 : decode cX8_nameHere 58 = .ok (.getfield 110, 3) := dq_180 bk_cX8_nameHere_39 19 rfl rfl
theorem dX8_nameHere_61 : decode cX8_nameHere 61 = .ok (.invokevirtual 204, 3) := dq_182 bk_cX8_nameHere_39 22 rfl rfl
theorem dX8_nameHere_64 : decode cX8_nameHere 64 = .ok (.goto 4, 3) := dq_167 bk_cX8_nameHere_39 25 rfl (by decide)
theorem dX8_nameHere_67 : decode cX8_nameHere 67 = .ok (.iconst 0, 1) := dk_3 (blk_at bk_cX8_nameHere_39 28 rfl)
theorem dX8_nameHere_68 : decode cX8_nameHere 68 = .ok (.ireturn, 1) := dk_172 (blk_at bk_cX8_nameHere_39 29 rfl)
theorem bk_cX8_findName_0 : (cX8_findName.data.toList.drop 0).take 35 = [3, 61, 28, 42, 180, 0, 16, 4, 46, 162, 0, 24, 42, 180, 0, 16, 16, 54, 28, 96, 46, 27, 160, 0, 5, 28, 172, 132, 2, 1, 167, 255, 228, 2, 172] := by decide +kernel
theorem dX8_findName_0 : decode cX8_findName 0 = .ok (.iconst 0, 1) := dk_3 (blk_at bk_cX8_findName_0 0 rfl)
theorem dX8_findName_1 : decode cX8_findName 1 = .ok (.istore_n 2, 1) := dk_61 (blk_at bk_cX8_findName_0 1 rfl)
theorem dX8_findName_2 : decode cX8_findName 2 = .ok (.iload_n 2, 1) := dk_28 (blk_at bk_cX8_findName_0 2 rfl)
theorem dX8_findName_3 : decode cX8_findName 3 = .ok (.aload_n 0, 1) := dk_42 (blk_at bk_cX8_findName_0 3 rfl)
theorem dX8_findName_4 : decode cX8_findName 4 = .ok (.getfield 16, 3) := dq_180 bk_cX8_findName_0 4 rfl rfl
theorem dX8_findName_7 : decode cX8_findName 7 = .ok (.iconst 1, 1) := dk_4 (blk_at bk_cX8_findName_0 7 rfl)
theorem dX8_findName_8 : decode cX8_findName 8 = .ok (.iaload, 1) := dk_46 (blk_at bk_cX8_findName_0 8 rfl)
theorem dX8_findName_9 : decode cX8_findName 9 = .ok (.if_icmp .ge 24, 3) := dq_162 bk_cX8_findName_0 9 rfl (by decide)
theorem dX8_findName_12 : decode cX8_findName 12 = .ok (.aload_n 0, 1) := dk_42 (blk_at bk_cX8_findName_0 12 rfl)
theorem dX8_findName_13 : decode cX8_findName 13 = .ok (.getfield 16, 3) := dq_180 bk_cX8_findName_0 13 rfl rfl
theorem dX8_findName_16 : decode cX8_findName 16 = .ok (.bipush 54, 2) := dq_16 bk_cX8_findName_0 16 rfl (by decide)
theorem dX8_findName_18 : decode cX8_findName 18 = .ok (.iload_n 2, 1) := dk_28 (blk_at bk_cX8_findName_0 18 rfl)
theorem dX8_findName_19 : decode cX8_findName 19 = .ok (.iadd, 1) := dk_96 (blk_at bk_cX8_findName_0 19 rfl)
theorem dX8_findName_20 : decode cX8_findName 20 = .ok (.iaload, 1) := dk_46 (blk_at bk_cX8_findName_0 20 rfl)
theorem dX8_findName_21 : decode cX8_findName 21 = .ok (.iload_n 1, 1) := dk_27 (blk_at bk_cX8_findName_0 21 rfl)
theorem dX8_findName_22 : decode cX8_findName 22 = .ok (.if_icmp .ne 5, 3) := dq_160 bk_cX8_findName_0 22 rfl (by decide)
theorem dX8_findName_25 : decode cX8_findName 25 = .ok (.iload_n 2, 1) := dk_28 (blk_at bk_cX8_findName_0 25 rfl)
theorem dX8_findName_26 : decode cX8_findName 26 = .ok (.ireturn, 1) := dk_172 (blk_at bk_cX8_findName_0 26 rfl)
theorem dX8_findName_27 : decode cX8_findName 27 = .ok (.iinc 2 1, 3) := dq_132 bk_cX8_findName_0 27 rfl rfl (by decide)
theorem dX8_findName_30 : decode cX8_findName 30 = .ok (.goto (-28), 3) := dq_167 bk_cX8_findName_0 30 rfl (by decide)
theorem dX8_findName_33 : decode cX8_findName 33 = .ok (.iconst (-1), 1) := dk_2 (blk_at bk_cX8_findName_0 33 rfl)
theorem dX8_findName_34 : decode cX8_findName 34 = .ok (.ireturn, 1) := dk_172 (blk_at bk_cX8_findName_0 34 rfl)
theorem bk_cX8_readLimit_0 : (cX8_readLimit.data.toList.drop 0).take 38 = [42, 180, 0, 207, 153, 0, 12, 42, 8, 42, 180, 0, 116, 182, 0, 157, 42, 18, 187, 182, 0, 211, 42, 182, 0, 104, 153, 0, 49, 42, 180, 0, 119, 5, 160, 0, 41, 42] := by decide +kernel
theorem dX8_readLimit_0 : decode cX8_readLimit 0 = .ok (.aload_n 0, 1) := dk_42 (blk_at bk_cX8_readLimit_0 0 rfl)
theorem dX8_readLimit_1 : decode cX8_readLimit 1 = .ok (.getfield 207, 3) := dq_180 bk_cX8_readLimit_0 1 rfl rfl
theorem dX8_readLimit_4 : decode cX8_readLimit 4 = .ok (.ifCond .eq 12, 3) := dq_153 bk_cX8_readLimit_0 4 rfl (by decide)
theorem dX8_readLimit_7 : decode cX8_readLimit 7 = .ok (.aload_n 0, 1) := dk_42 (blk_at bk_cX8_readLimit_0 7 rfl)
theorem dX8_readLimit_8 : decode cX8_readLimit 8 = .ok (.iconst 5, 1) := dk_8 (blk_at bk_cX8_readLimit_0 8 rfl)
theorem dX8_readLimit_9 : decode cX8_readLimit 9 = .ok (.aload_n 0, 1) := dk_42 (blk_at bk_cX8_readLimit_0 9 rfl)
theorem dX8_readLimit_10 : decode cX8_readLimit 10 = .ok (.getfield 116, 3) := dq_180 bk_cX8_readLimit_0 10 rfl rfl
theorem dX8_readLimit_13 : decode cX8_readLimit 13 = .ok (.invokevirtual 157, 3) := dq_182 bk_cX8_readLimit_0 13 rfl rfl
theorem dX8_readLimit_16 : decode cX8_readLimit 16 = .ok (.aload_n 0, 1) := dk_42 (blk_at bk_cX8_readLimit_0 16 rfl)
theorem dX8_readLimit_17 : decode cX8_readLimit 17 = .ok (.ldc 187, 2) := dq_18 bk_cX8_readLimit_0 17 rfl rfl
theorem dX8_readLimit_19 : decode cX8_readLimit 19 = .ok (.invokevirtual 211, 3) := dq_182 bk_cX8_readLimit_0 19 rfl rfl
theorem dX8_readLimit_22 : decode cX8_readLimit 22 = .ok (.aload_n 0, 1) := dk_42 (blk_at bk_cX8_readLimit_0 22 rfl)
theorem dX8_readLimit_23 : decode cX8_readLimit 23 = .ok (.invokevirtual 104, 3) := dq_182 bk_cX8_readLimit_0 23 rfl rfl
theorem dX8_readLimit_26 : decode cX8_readLimit 26 = .ok (.ifCond .eq 49, 3) := dq_153 bk_cX8_readLimit_0 26 rfl (by decide)
theorem dX8_readLimit_29 : decode cX8_readLimit 29 = .ok (.aload_n 0, 1) := dk_42 (blk_at bk_cX8_readLimit_0 29 rfl)
theorem dX8_readLimit_30 : decode cX8_readLimit 30 = .ok (.getfield 119, 3) := dq_180 bk_cX8_readLimit_0 30 rfl rfl
theorem dX8_readLimit_33 : decode cX8_readLimit 33 = .ok (.iconst 2, 1) := dk_5 (blk_at bk_cX8_readLimit_0 33 rfl)
theorem dX8_readLimit_34 : decode cX8_readLimit 34 = .ok (.if_icmp .ne 41, 3) := dq_160 bk_cX8_readLimit_0 34 rfl (by decide)
theorem dX8_readLimit_37 : decode cX8_readLimit 37 = .ok (.aload_n 0, 1) := dk_42 (blk_at bk_cX8_readLimit_0 37 rfl)
theorem bk_cX8_readLimit_38 : (cX8_readLimit.data.toList.drop 38).take 39 = [180, 0, 130, 133, 9, 20, 0, 55, 184, 0, 45, 153, 0, 26, 42, 180, 0, 215, 42, 180, 0, 130, 184, 0, 75, 153, 0, 12, 42, 6, 42, 180, 0, 116, 182, 0, 157, 42, 3] := by decide +kernel
theorem dX8_readLimit_38 : decode cX8_readLimit 38 = .ok (.getfield 130, 3) := dq_180 bk_cX8_readLimit_38 0 rfl rfl
theorem dX8_readLimit_41 : decode cX8_readLimit 41 = .ok (.i2l, 1) := dk_133 (blk_at bk_cX8_readLimit_38 3 rfl)
theorem dX8_readLimit_42 : decode cX8_readLimit 42 = .ok (.lconst 0, 1) := dk_9 (blk_at bk_cX8_readLimit_38 4 rfl)
theorem dX8_readLimit_43 : decode cX8_readLimit 43 = .ok (.ldc2_w 55, 3) := dq_20 bk_cX8_readLimit_38 5 rfl rfl
theorem dX8_readLimit_46 : decode cX8_readLimit 46 = .ok (.invokestatic 45, 3) := dq_184 bk_cX8_readLimit_38 8 rfl rfl
theorem dX8_readLimit_49 : decode cX8_readLimit 49 = .ok (.ifCond .eq 26, 3) := dq_153 bk_cX8_readLimit_38 11 rfl (by decide)
theorem dX8_readLimit_52 : decode cX8_readLimit 52 = .ok (.aload_n 0, 1) := dk_42 (blk_at bk_cX8_readLimit_38 14 rfl)
theorem dX8_readLimit_53 : decode cX8_readLimit 53 = .ok (.getfield 215, 3) := dq_180 bk_cX8_readLimit_38 15 rfl rfl
theorem dX8_readLimit_56 : decode cX8_readLimit 56 = .ok (.aload_n 0, 1) := dk_42 (blk_at bk_cX8_readLimit_38 18 rfl)
theorem dX8_readLimit_57 : decode cX8_readLimit 57 = .ok (.getfield 130, 3) := dq_180 bk_cX8_readLimit_38 19 rfl rfl
theorem dX8_readLimit_60 : decode cX8_readLimit 60 = .ok (.invokestatic 75, 3) := dq_184 bk_cX8_readLimit_38 22 rfl rfl
theorem dX8_readLimit_63 : decode cX8_readLimit 63 = .ok (.ifCond .eq 12, 3) := dq_153 bk_cX8_readLimit_38 25 rfl (by decide)
theorem dX8_readLimit_66 : decode cX8_readLimit 66 = .ok (.aload_n 0, 1) := dk_42 (blk_at bk_cX8_readLimit_38 28 rfl)
theorem dX8_readLimit_67 : decode cX8_readLimit 67 = .ok (.iconst 3, 1) := dk_6 (blk_at bk_cX8_readLimit_38 29 rfl)
theorem dX8_readLimit_68 : decode cX8_readLimit 68 = .ok (.aload_n 0, 1) := dk_42 (blk_at bk_cX8_readLimit_38 30 rfl)
theorem dX8_readLimit_69 : decode cX8_readLimit 69 = .ok (.getfield 116, 3) := dq_180 bk_cX8_readLimit_38 31 rfl rfl
theorem dX8_readLimit_72 : decode cX8_readLimit 72 = .ok (.invokevirtual 157, 3) := dq_182 bk_cX8_readLimit_38 34 rfl rfl
theorem dX8_readLimit_75 : decode cX8_readLimit 75 = .ok (.aload_n 0, 1) := dk_42 (blk_at bk_cX8_readLimit_38 37 rfl)
theorem dX8_readLimit_76 : decode cX8_readLimit 76 = .ok (.iconst 0, 1) := dk_3 (blk_at bk_cX8_readLimit_38 38 rfl)
theorem bk_cX8_readLimit_77 : (cX8_readLimit.data.toList.drop 77).take 40 = [16, 23, 182, 0, 218, 60, 42, 3, 16, 9, 182, 0, 218, 61, 42, 18, 195, 182, 0, 211, 42, 3, 28, 182, 0, 218, 62, 42, 182, 0, 104, 154, 0, 4, 177, 42, 89, 180, 0, 215] := by decide +kernel
theorem dX8_readLimit_77 : decode cX8_readLimit 77 = .ok (.bipush 23, 2) := dq_16 bk_cX8_readLimit_77 0 rfl (by decide)
theorem dX8_readLimit_79 : decode cX8_readLimit 79 = .ok (.invokevirtual 218, 3) := dq_182 bk_cX8_readLimit_77 2 rfl rfl
theorem dX8_readLimit_82 : decode cX8_readLimit 82 = .ok (.istore_n 1, 1) := dk_60 (blk_at bk_cX8_readLimit_77 5 rfl)
theorem dX8_readLimit_83 : decode cX8_readLimit 83 = .ok (.aload_n 0, 1) := dk_42 (blk_at bk_cX8_readLimit_77 6 rfl)
theorem dX8_readLimit_84 : decode cX8_readLimit 84 = .ok (.iconst 0, 1) := dk_3 (blk_at bk_cX8_readLimit_77 7 rfl)
theorem dX8_readLimit_85 : decode cX8_readLimit 85 = .ok (.bipush 9, 2) := dq_16 bk_cX8_readLimit_77 8 rfl (by decide)
theorem dX8_readLimit_87 : decode cX8_readLimit 87 = .ok (.invokevirtual 218, 3) := dq_182 bk_cX8_readLimit_77 10 rfl rfl
theorem dX8_readLimit_90 : decode cX8_readLimit 90 = .ok (.istore_n 2, 1) := dk_61 (blk_at bk_cX8_readLimit_77 13 rfl)
theorem dX8_readLimit_91 : decode cX8_readLimit 91 = .ok (.aload_n 0, 1) := dk_42 (blk_at bk_cX8_readLimit_77 14 rfl)
theorem dX8_readLimit_92 : decode cX8_readLimit 92 = .ok (.ldc 195, 2) := dq_18 bk_cX8_readLimit_77 15 rfl rfl
theorem dX8_readLimit_94 : decode cX8_readLimit 94 = .ok (.invokevirtual 211, 3) := dq_182 bk_cX8_readLimit_77 17 rfl rfl
theorem dX8_readLimit_97 : decode cX8_readLimit 97 = .ok (.aload_n 0, 1) := dk_42 (blk_at bk_cX8_readLimit_77 20 rfl)
theorem dX8_readLimit_98 : decode cX8_readLimit 98 = .ok (.iconst 0, 1) := dk_3 (blk_at bk_cX8_readLimit_77 21 rfl)
theorem dX8_readLimit_99 : decode cX8_readLimit 99 = .ok (.iload_n 2, 1) := dk_28 (blk_at bk_cX8_readLimit_77 22 rfl)
theorem dX8_readLimit_100 : decode cX8_readLimit 100 = .ok (.invokevirtual 218, 3) := dq_182 bk_cX8_readLimit_77 23 rfl rfl
theorem dX8_readLimit_103 : decode cX8_readLimit 103 = .ok (.istore_n 3, 1) := dk_62 (blk_at bk_cX8_readLimit_77 26 rfl)
theorem dX8_readLimit_104 : decode cX8_readLimit 104 = .ok (.aload_n 0, 1) := dk_42 (blk_at bk_cX8_readLimit_77 27 rfl)
theorem dX8_readLimit_105 : decode cX8_readLimit 105 = .ok (.invokevirtual 104, 3) := dq_182 bk_cX8_readLimit_77 28 rfl rfl
theorem dX8_readLimit_108 : decode cX8_readLimit 108 = .ok (.ifCond .ne 4, 3) := dq_154 bk_cX8_readLimit_77 31 rfl (by decide)
theorem dX8_readLimit_111 : decode cX8_readLimit 111 = .ok (.return_, 1) := dk_177 (blk_at bk_cX8_readLimit_77 34 rfl)
theorem dX8_readLimit_112 : decode cX8_readLimit 112 = .ok (.aload_n 0, 1) := dk_42 (blk_at bk_cX8_readLimit_77 35 rfl)
theorem dX8_readLimit_113 : decode cX8_readLimit 113 = .ok (.dup, 1) := dk_89 (blk_at bk_cX8_readLimit_77 36 rfl)
theorem dX8_readLimit_114 : decode cX8_readLimit 114 = .ok (.getfield 215, 3) := dq_180 bk_cX8_readLimit_77 37 rfl rfl
theorem bk_cX8_readLimit_117 : (cX8_readLimit.data.toList.drop 117).take 34 = [4, 27, 120, 128, 181, 0, 215, 42, 180, 0, 16, 16, 6, 5, 27, 104, 96, 28, 79, 42, 180, 0, 16, 16, 6, 5, 27, 104, 96, 4, 96, 29, 79, 177] := by decide +kernel
theorem dX8_readLimit_117 : decode cX8_readLimit 117 = .ok (.iconst 1, 1) := dk_4 (blk_at bk_cX8_readLimit_117 0 rfl)
theorem dX8_readLimit_118 : decode cX8_readLimit 118 = .ok (.iload_n 1, 1) := dk_27 (blk_at bk_cX8_readLimit_117 1 rfl)
theorem dX8_readLimit_119 : decode cX8_readLimit 119 = .ok (.ishl, 1) := dk_120 (blk_at bk_cX8_readLimit_117 2 rfl)
theorem dX8_readLimit_120 : decode cX8_readLimit 120 = .ok (.ior, 1) := dk_128 (blk_at bk_cX8_readLimit_117 3 rfl)
theorem dX8_readLimit_121 : decode cX8_readLimit 121 = .ok (.putfield 215, 3) := dq_181 bk_cX8_readLimit_117 4 rfl rfl
theorem dX8_readLimit_124 : decode cX8_readLimit 124 = .ok (.aload_n 0, 1) := dk_42 (blk_at bk_cX8_readLimit_117 7 rfl)
theorem dX8_readLimit_125 : decode cX8_readLimit 125 = .ok (.getfield 16, 3) := dq_180 bk_cX8_readLimit_117 8 rfl rfl
theorem dX8_readLimit_128 : decode cX8_readLimit 128 = .ok (.bipush 6, 2) := dq_16 bk_cX8_readLimit_117 11 rfl (by decide)
theorem dX8_readLimit_130 : decode cX8_readLimit 130 = .ok (.iconst 2, 1) := dk_5 (blk_at bk_cX8_readLimit_117 13 rfl)
theorem dX8_readLimit_131 : decode cX8_readLimit 131 = .ok (.iload_n 1, 1) := dk_27 (blk_at bk_cX8_readLimit_117 14 rfl)
theorem dX8_readLimit_132 : decode cX8_readLimit 132 = .ok (.imul, 1) := dk_104 (blk_at bk_cX8_readLimit_117 15 rfl)
theorem dX8_readLimit_133 : decode cX8_readLimit 133 = .ok (.iadd, 1) := dk_96 (blk_at bk_cX8_readLimit_117 16 rfl)
theorem dX8_readLimit_134 : decode cX8_readLimit 134 = .ok (.iload_n 2, 1) := dk_28 (blk_at bk_cX8_readLimit_117 17 rfl)
theorem dX8_readLimit_135 : decode cX8_readLimit 135 = .ok (.iastore, 1) := dk_79 (blk_at bk_cX8_readLimit_117 18 rfl)
theorem dX8_readLimit_136 : decode cX8_readLimit 136 = .ok (.aload_n 0, 1) := dk_42 (blk_at bk_cX8_readLimit_117 19 rfl)
theorem dX8_readLimit_137 : decode cX8_readLimit 137 = .ok (.getfield 16, 3) := dq_180 bk_cX8_readLimit_117 20 rfl rfl
theorem dX8_readLimit_140 : decode cX8_readLimit 140 = .ok (.bipush 6, 2) := dq_16 bk_cX8_readLimit_117 23 rfl (by decide)
theorem dX8_readLimit_142 : decode cX8_readLimit 142 = .ok (.iconst 2, 1) := dk_5 (blk_at bk_cX8_readLimit_117 25 rfl)
theorem dX8_readLimit_143 : decode cX8_readLimit 143 = .ok (.iload_n 1, 1) := dk_27 (blk_at bk_cX8_readLimit_117 26 rfl)
theorem dX8_readLimit_144 : decode cX8_readLimit 144 = .ok (.imul, 1) := dk_104 (blk_at bk_cX8_readLimit_117 27 rfl)
theorem dX8_readLimit_145 : decode cX8_readLimit 145 = .ok (.iadd, 1) := dk_96 (blk_at bk_cX8_readLimit_117 28 rfl)
theorem dX8_readLimit_146 : decode cX8_readLimit 146 = .ok (.iconst 1, 1) := dk_4 (blk_at bk_cX8_readLimit_117 29 rfl)
theorem dX8_readLimit_147 : decode cX8_readLimit 147 = .ok (.iadd, 1) := dk_96 (blk_at bk_cX8_readLimit_117 30 rfl)
theorem dX8_readLimit_148 : decode cX8_readLimit 148 = .ok (.iload_n 3, 1) := dk_29 (blk_at bk_cX8_readLimit_117 31 rfl)
theorem dX8_readLimit_149 : decode cX8_readLimit 149 = .ok (.iastore, 1) := dk_79 (blk_at bk_cX8_readLimit_117 32 rfl)
theorem dX8_readLimit_150 : decode cX8_readLimit 150 = .ok (.return_, 1) := dk_177 (blk_at bk_cX8_readLimit_117 33 rfl)
theorem bk_cX8_readCarrier_0 : (cX8_readCarrier.data.toList.drop 0).take 40 = [42, 180, 0, 16, 4, 46, 16, 8, 160, 0, 12, 42, 8, 42, 180, 0, 116, 182, 0, 157, 42, 18, 189, 182, 0, 211, 42, 182, 0, 221, 60, 42, 182, 0, 104, 153, 0, 21, 42, 27] := by decide +kernel
theorem dX8_readCarrier_0 : decode cX8_readCarrier 0 = .ok (.aload_n 0, 1) := dk_42 (blk_at bk_cX8_readCarrier_0 0 rfl)
theorem dX8_readCarrier_1 : decode cX8_readCarrier 1 = .ok (.getfield 16, 3) := dq_180 bk_cX8_readCarrier_0 1 rfl rfl
theorem dX8_readCarrier_4 : decode cX8_readCarrier 4 = .ok (.iconst 1, 1) := dk_4 (blk_at bk_cX8_readCarrier_0 4 rfl)
theorem dX8_readCarrier_5 : decode cX8_readCarrier 5 = .ok (.iaload, 1) := dk_46 (blk_at bk_cX8_readCarrier_0 5 rfl)
theorem dX8_readCarrier_6 : decode cX8_readCarrier 6 = .ok (.bipush 8, 2) := dq_16 bk_cX8_readCarrier_0 6 rfl (by decide)
theorem dX8_readCarrier_8 : decode cX8_readCarrier 8 = .ok (.if_icmp .ne 12, 3) := dq_160 bk_cX8_readCarrier_0 8 rfl (by decide)
theorem dX8_readCarrier_11 : decode cX8_readCarrier 11 = .ok (.aload_n 0, 1) := dk_42 (blk_at bk_cX8_readCarrier_0 11 rfl)
theorem dX8_readCarrier_12 : decode cX8_readCarrier 12 = .ok (.iconst 5, 1) := dk_8 (blk_at bk_cX8_readCarrier_0 12 rfl)
theorem dX8_readCarrier_13 : decode cX8_readCarrier 13 = .ok (.aload_n 0, 1) := dk_42 (blk_at bk_cX8_readCarrier_0 13 rfl)
theorem dX8_readCarrier_14 : decode cX8_readCarrier 14 = .ok (.getfield 116, 3) := dq_180 bk_cX8_readCarrier_0 14 rfl rfl
theorem dX8_readCarrier_17 : decode cX8_readCarrier 17 = .ok (.invokevirtual 157, 3) := dq_182 bk_cX8_readCarrier_0 17 rfl rfl
theorem dX8_readCarrier_20 : decode cX8_readCarrier 20 = .ok (.aload_n 0, 1) := dk_42 (blk_at bk_cX8_readCarrier_0 20 rfl)
theorem dX8_readCarrier_21 : decode cX8_readCarrier 21 = .ok (.ldc 189, 2) := dq_18 bk_cX8_readCarrier_0 21 rfl rfl
theorem dX8_readCarrier_23 : decode cX8_readCarrier 23 = .ok (.invokevirtual 211, 3) := dq_182 bk_cX8_readCarrier_0 23 rfl rfl
theorem dX8_readCarrier_26 : decode cX8_readCarrier 26 = .ok (.aload_n 0, 1) := dk_42 (blk_at bk_cX8_readCarrier_0 26 rfl)
theorem dX8_readCarrier_27 : decode cX8_readCarrier 27 = .ok (.invokevirtual 221, 3) := dq_182 bk_cX8_readCarrier_0 27 rfl rfl
theorem dX8_readCarrier_30 : decode cX8_readCarrier 30 = .ok (.istore_n 1, 1) := dk_60 (blk_at bk_cX8_readCarrier_0 30 rfl)
theorem dX8_readCarrier_31 : decode cX8_readCarrier 31 = .ok (.aload_n 0, 1) := dk_42 (blk_at bk_cX8_readCarrier_0 31 rfl)
theorem dX8_readCarrier_32 : decode cX8_readCarrier 32 = .ok (.invokevirtual 104, 3) := dq_182 bk_cX8_readCarrier_0 32 rfl rfl
theorem dX8_readCarrier_35 : decode cX8_readCarrier 35 = .ok (.ifCond .eq 21, 3) := dq_153 bk_cX8_readCarrier_0 35 rfl (by decide)
theorem dX8_readCarrier_38 : decode cX8_readCarrier 38 = .ok (.aload_n 0, 1) := dk_42 (blk_at bk_cX8_readCarrier_0 38 rfl)
theorem dX8_readCarrier_39 : decode cX8_readCarrier 39 = .ok (.iload_n 1, 1) := dk_27 (blk_at bk_cX8_readCarrier_0 39 rfl)
theorem bk_cX8_readCarrier_40 : (cX8_readCarrier.data.toList.drop 40).take 40 = [182, 0, 224, 2, 159, 0, 12, 42, 6, 42, 180, 0, 116, 182, 0, 157, 42, 182, 0, 104, 154, 0, 4, 177, 42, 180, 0, 16, 16, 54, 42, 180, 0, 16, 4, 46, 96, 27, 79, 42] := by decide +kernel
theorem dX8_readCarrier_40 : decode cX8_readCarrier 40 = .ok (.invokevirtual 224, 3) := dq_182 bk_cX8_readCarrier_40 0 rfl rfl
theorem dX8_readCarrier_43 : decode cX8_readCarrier 43 = .ok (.iconst (-1), 1) := dk_2 (blk_at bk_cX8_readCarrier_40 3 rfl)
theorem dX8_readCarrier_44 : decode cX8_readCarrier 44 = .ok (.if_icmp .eq 12, 3) := dq_159 bk_cX8_readCarrier_40 4 rfl (by decide)
theorem dX8_readCarrier_47 : decode cX8_readCarrier 47 = .ok (.aload_n 0, 1) := dk_42 (blk_at bk_cX8_readCarrier_40 7 rfl)
theorem dX8_readCarrier_48 : decode cX8_readCarrier 48 = .ok (.iconst 3, 1) := dk_6 (blk_at bk_cX8_readCarrier_40 8 rfl)
theorem dX8_readCarrier_49 : decode cX8_readCarrier 49 = .ok (.aload_n 0, 1) := dk_42 (blk_at bk_cX8_readCarrier_40 9 rfl)
theorem dX8_readCarrier_50 : decode cX8_readCarrier 50 = .ok (.getfield 116, 3) := dq_180 bk_cX8_readCarrier_40 10 rfl rfl
theorem dX8_readCarrier_53 : decode cX8_readCarrier 53 = .ok (.invokevirtual 157, 3) := dq_182 bk_cX8_readCarrier_40 13 rfl rfl
theorem dX8_readCarrier_56 : decode cX8_readCarrier 56 = .ok (.aload_n 0, 1) := dk_42 (blk_at bk_cX8_readCarrier_40 16 rfl)
theorem dX8_readCarrier_57 : decode cX8_readCarrier 57 = .ok (.invokevirtual 104, 3) := dq_182 bk_cX8_readCarrier_40 17 rfl rfl
theorem dX8_readCarrier_60 : decode cX8_readCarrier 60 = .ok (.ifCond .ne 4, 3) := dq_154 bk_cX8_readCarrier_40 20 rfl (by decide)
theorem dX8_readCarrier_63 : decode cX8_readCarrier 63 = .ok (.return_, 1) := dk_177 (blk_at bk_cX8_readCarrier_40 23 rfl)
theorem dX8_readCarrier_64 : decode cX8_readCarrier 64 = .ok (.aload_n 0, 1) := dk_42 (blk_at bk_cX8_readCarrier_40 24 rfl)
theorem dX8_readCarrier_65 : decode cX8_readCarrier 65 = .ok (.getfield 16, 3) := dq_180 bk_cX8_readCarrier_40 25 rfl rfl
theorem dX8_readCarrier_68 : decode cX8_readCarrier 68 = .ok (.bipush 54, 2) := dq_16 bk_cX8_readCarrier_40 28 rfl (by decide)
theorem dX8_readCarrier_70 : decode cX8_readCarrier 70 = .ok (.aload_n 0, 1) := dk_42 (blk_at bk_cX8_readCarrier_40 30 rfl)
theorem dX8_readCarrier_71 : decode cX8_readCarrier 71 = .ok (.getfield 16, 3) := dq_180 bk_cX8_readCarrier_40 31 rfl rfl
theorem dX8_readCarrier_74 : decode cX8_readCarrier 74 = .ok (.iconst 1, 1) := dk_4 (blk_at bk_cX8_readCarrier_40 34 rfl)
theorem dX8_readCarrier_75 : decode cX8_readCarrier 75 = .ok (.iaload, 1) := dk_46 (blk_at bk_cX8_readCarrier_40 35 rfl)
theorem dX8_readCarrier_76 : decode cX8_readCarrier 76 = .ok (.iadd, 1) := dk_96 (blk_at bk_cX8_readCarrier_40 36 rfl)
theorem dX8_readCarrier_77 : decode cX8_readCarrier 77 = .ok (.iload_n 1, 1) := dk_27 (blk_at bk_cX8_readCarrier_40 37 rfl)
theorem dX8_readCarrier_78 : decode cX8_readCarrier 78 = .ok (.iastore, 1) := dk_79 (blk_at bk_cX8_readCarrier_40 38 rfl)
theorem dX8_readCarrier_79 : decode cX8_readCarrier 79 = .ok (.aload_n 0, 1) := dk_42 (blk_at bk_cX8_readCarrier_40 39 rfl)
theorem bk_cX8_readCarrier_80 : (cX8_readCarrier.data.toList.drop 80).take 14 = [180, 0, 16, 4, 92, 46, 4, 96, 79, 42, 182, 0, 151, 177] := by decide +kernel
theorem dX8_readCarrier_80 : decode cX8_readCarrier 80 = .ok (.getfield 16, 3) := dq_180 bk_cX8_readCarrier_80 0 rfl rfl
theorem dX8_readCarrier_83 : decode cX8_readCarrier 83 = .ok (.iconst 1, 1) := dk_4 (blk_at bk_cX8_readCarrier_80 3 rfl)
theorem dX8_readCarrier_84 : decode cX8_readCarrier 84 = .ok (.dup2, 1) := dk_92 (blk_at bk_cX8_readCarrier_80 4 rfl)
theorem dX8_readCarrier_85 : decode cX8_readCarrier 85 = .ok (.iaload, 1) := dk_46 (blk_at bk_cX8_readCarrier_80 5 rfl)
theorem dX8_readCarrier_86 : decode cX8_readCarrier 86 = .ok (.iconst 1, 1) := dk_4 (blk_at bk_cX8_readCarrier_80 6 rfl)
theorem dX8_readCarrier_87 : decode cX8_readCarrier 87 = .ok (.iadd, 1) := dk_96 (blk_at bk_cX8_readCarrier_80 7 rfl)
theorem dX8_readCarrier_88 : decode cX8_readCarrier 88 = .ok (.iastore, 1) := dk_79 (blk_at bk_cX8_readCarrier_80 8 rfl)
theorem dX8_readCarrier_89 : decode cX8_readCarrier 89 = .ok (.aload_n 0, 1) := dk_42 (blk_at bk_cX8_readCarrier_80 9 rfl)
theorem dX8_readCarrier_90 : decode cX8_readCarrier 90 = .ok (.invokevirtual 151, 3) := dq_182 bk_cX8_readCarrier_80 10 rfl rfl
theorem dX8_readCarrier_93 : decode cX8_readCarrier 93 = .ok (.return_, 1) := dk_177 (blk_at bk_cX8_readCarrier_80 13 rfl)
theorem bk_cX8_readCommon_0 : (cX8_readCommon.data.toList.drop 0).take 38 = [42, 42, 182, 0, 221, 182, 0, 224, 60, 42, 182, 0, 104, 153, 0, 17, 27, 2, 160, 0, 12, 42, 7, 42, 180, 0, 116, 182, 0, 157, 42, 182, 0, 104, 153, 0, 7, 42] := by decide +kernel
theorem dX8_readCommon_0 : decode cX8_readCommon 0 = .ok (.aload_n 0, 1) := dk_42 (blk_at bk_cX8_readCommon_0 0 rfl)
theorem dX8_readCommon_1 : decode cX8_readCommon 1 = .ok (.aload_n 0, 1) := dk_42 (blk_at bk_cX8_readCommon_0 1 rfl)
theorem dX8_readCommon_2 : decode cX8_readCommon 2 = .ok (.invokevirtual 221, 3) := dq_182 bk_cX8_readCommon_0 2 rfl rfl
theorem dX8_readCommon_5 : decode cX8_readCommon 5 = .ok (.invokevirtual 224, 3) := dq_182 bk_cX8_readCommon_0 5 rfl rfl
theorem dX8_readCommon_8 : decode cX8_readCommon 8 = .ok (.istore_n 1, 1) := dk_60 (blk_at bk_cX8_readCommon_0 8 rfl)
theorem dX8_readCommon_9 : decode cX8_readCommon 9 = .ok (.aload_n 0, 1) := dk_42 (blk_at bk_cX8_readCommon_0 9 rfl)
theorem dX8_readCommon_10 : decode cX8_readCommon 10 = .ok (.invokevirtual 104, 3) := dq_182 bk_cX8_readCommon_0 10 rfl rfl
theorem dX8_readCommon_13 : decode cX8_readCommon 13 = .ok (.ifCond .eq 17, 3) := dq_153 bk_cX8_readCommon_0 13 rfl (by decide)
theorem dX8_readCommon_16 : decode cX8_readCommon 16 = .ok (.iload_n 1, 1) := dk_27 (blk_at bk_cX8_readCommon_0 16 rfl)
theorem dX8_readCommon_17 : decode cX8_readCommon 17 = .ok (.iconst (-1), 1) := dk_2 (blk_at bk_cX8_readCommon_0 17 rfl)
theorem dX8_readCommon_18 : decode cX8_readCommon 18 = .ok (.if_icmp .ne 12, 3) := dq_160 bk_cX8_readCommon_0 18 rfl (by decide)
theorem dX8_readCommon_21 : decode cX8_readCommon 21 = .ok (.aload_n 0, 1) := dk_42 (blk_at bk_cX8_readCommon_0 21 rfl)
theorem dX8_readCommon_22 : decode cX8_readCommon 22 = .ok (.iconst 4, 1) := dk_7 (blk_at bk_cX8_readCommon_0 22 rfl)
theorem dX8_readCommon_23 : decode cX8_readCommon 23 = .ok (.aload_n 0, 1) := dk_42 (blk_at bk_cX8_readCommon_0 23 rfl)
theorem dX8_readCommon_24 : decode cX8_readCommon 24 = .ok (.getfield 116, 3) := dq_180 bk_cX8_readCommon_0 24 rfl rfl
theorem dX8_readCommon_27 : decode cX8_readCommon 27 = .ok (.invokevirtual 157, 3) := dq_182 bk_cX8_readCommon_0 27 rfl rfl
theorem dX8_readCommon_30 : decode cX8_readCommon 30 = .ok (.aload_n 0, 1) := dk_42 (blk_at bk_cX8_readCommon_0 30 rfl)
theorem dX8_readCommon_31 : decode cX8_readCommon 31 = .ok (.invokevirtual 104, 3) := dq_182 bk_cX8_readCommon_0 31 rfl rfl
theorem dX8_readCommon_34 : decode cX8_readCommon 34 = .ok (.ifCond .eq 7, 3) := dq_153 bk_cX8_readCommon_0 34 rfl (by decide)
theorem dX8_readCommon_37 : decode cX8_readCommon 37 = .ok (.aload_n 0, 1) := dk_42 (blk_at bk_cX8_readCommon_0 37 rfl)
theorem bk_cX8_readCommon_38 : (cX8_readCommon.data.toList.drop 38).take 40 = [182, 0, 151, 42, 182, 0, 182, 61, 28, 2, 160, 0, 12, 42, 4, 42, 180, 0, 116, 182, 0, 157, 42, 182, 0, 104, 153, 0, 7, 42, 182, 0, 151, 42, 180, 0, 27, 3, 27, 79] := by decide +kernel
theorem dX8_readCommon_38 : decode cX8_readCommon 38 = .ok (.invokevirtual 151, 3) := dq_182 bk_cX8_readCommon_38 0 rfl rfl
theorem dX8_readCommon_41 : decode cX8_readCommon 41 = .ok (.aload_n 0, 1) := dk_42 (blk_at bk_cX8_readCommon_38 3 rfl)
theorem dX8_readCommon_42 : decode cX8_readCommon 42 = .ok (.invokevirtual 182, 3) := dq_182 bk_cX8_readCommon_38 4 rfl rfl
theorem dX8_readCommon_45 : decode cX8_readCommon 45 = .ok (.istore_n 2, 1) := dk_61 (blk_at bk_cX8_readCommon_38 7 rfl)
theorem dX8_readCommon_46 : decode cX8_readCommon 46 = .ok (.iload_n 2, 1) := dk_28 (blk_at bk_cX8_readCommon_38 8 rfl)
theorem dX8_readCommon_47 : decode cX8_readCommon 47 = .ok (.iconst (-1), 1) := dk_2 (blk_at bk_cX8_readCommon_38 9 rfl)
theorem dX8_readCommon_48 : decode cX8_readCommon 48 = .ok (.if_icmp .ne 12, 3) := dq_160 bk_cX8_readCommon_38 10 rfl (by decide)
theorem dX8_readCommon_51 : decode cX8_readCommon 51 = .ok (.aload_n 0, 1) := dk_42 (blk_at bk_cX8_readCommon_38 13 rfl)
theorem dX8_readCommon_52 : decode cX8_readCommon 52 = .ok (.iconst 1, 1) := dk_4 (blk_at bk_cX8_readCommon_38 14 rfl)
theorem dX8_readCommon_53 : decode cX8_readCommon 53 = .ok (.aload_n 0, 1) := dk_42 (blk_at bk_cX8_readCommon_38 15 rfl)
theorem dX8_readCommon_54 : decode cX8_readCommon 54 = .ok (.getfield 116, 3) := dq_180 bk_cX8_readCommon_38 16 rfl rfl
theorem dX8_readCommon_57 : decode cX8_readCommon 57 = .ok (.invokevirtual 157, 3) := dq_182 bk_cX8_readCommon_38 19 rfl rfl
theorem dX8_readCommon_60 : decode cX8_readCommon 60 = .ok (.aload_n 0, 1) := dk_42 (blk_at bk_cX8_readCommon_38 22 rfl)
theorem dX8_readCommon_61 : decode cX8_readCommon 61 = .ok (.invokevirtual 104, 3) := dq_182 bk_cX8_readCommon_38 23 rfl rfl
theorem dX8_readCommon_64 : decode cX8_readCommon 64 = .ok (.ifCond .eq 7, 3) := dq_153 bk_cX8_readCommon_38 26 rfl (by decide)
theorem dX8_readCommon_67 : decode cX8_readCommon 67 = .ok (.aload_n 0, 1) := dk_42 (blk_at bk_cX8_readCommon_38 29 rfl)
theorem dX8_readCommon_68 : decode cX8_readCommon 68 = .ok (.invokevirtual 151, 3) := dq_182 bk_cX8_readCommon_38 30 rfl rfl
theorem dX8_readCommon_71 : decode cX8_readCommon 71 = .ok (.aload_n 0, 1) := dk_42 (blk_at bk_cX8_readCommon_38 33 rfl)
theorem dX8_readCommon_72 : decode cX8_readCommon 72 = .ok (.getfield 27, 3) := dq_180 bk_cX8_readCommon_38 34 rfl rfl
theorem dX8_readCommon_75 : decode cX8_readCommon 75 = .ok (.iconst 0, 1) := dk_3 (blk_at bk_cX8_readCommon_38 37 rfl)
theorem dX8_readCommon_76 : decode cX8_readCommon 76 = .ok (.iload_n 1, 1) := dk_27 (blk_at bk_cX8_readCommon_38 38 rfl)
theorem dX8_readCommon_77 : decode cX8_readCommon 77 = .ok (.iastore, 1) := dk_79 (blk_at bk_cX8_readCommon_38 39 rfl)
theorem bk_cX8_readCommon_78 : (cX8_readCommon.data.toList.drop 78).take 39 = [42, 180, 0, 27, 4, 28, 79, 42, 180, 0, 27, 5, 42, 3, 16, 23, 182, 0, 218, 79, 42, 182, 0, 104, 153, 0, 30, 42, 18, 195, 182, 0, 147, 154, 0, 21, 42, 18, 196] := by decide +kernel
theorem dX8_readCommon_78 : decode cX8_readCommon 78 = .ok (.aload_n 0, 1) := dk_42 (blk_at bk_cX8_readCommon_78 0 rfl)
theorem dX8_readCommon_79 : decode cX8_readCommon 79 = .ok (.getfield 27, 3) := dq_180 bk_cX8_readCommon_78 1 rfl rfl
theorem dX8_readCommon_82 : decode cX8_readCommon 82 = .ok (.iconst 1, 1) := dk_4 (blk_at bk_cX8_readCommon_78 4 rfl)
theorem dX8_readCommon_83 : decode cX8_readCommon 83 = .ok (.iload_n 2, 1) := dk_28 (blk_at bk_cX8_readCommon_78 5 rfl)
theorem dX8_readCommon_84 : decode cX8_readCommon 84 = .ok (.iastore, 1) := dk_79 (blk_at bk_cX8_readCommon_78 6 rfl)
theorem dX8_readCommon_85 : decode cX8_readCommon 85 = .ok (.aload_n 0, 1) := dk_42 (blk_at bk_cX8_readCommon_78 7 rfl)
theorem dX8_readCommon_86 : decode cX8_readCommon 86 = .ok (.getfield 27, 3) := dq_180 bk_cX8_readCommon_78 8 rfl rfl
theorem dX8_readCommon_89 : decode cX8_readCommon 89 = .ok (.iconst 2, 1) := dk_5 (blk_at bk_cX8_readCommon_78 11 rfl)
theorem dX8_readCommon_90 : decode cX8_readCommon 90 = .ok (.aload_n 0, 1) := dk_42 (blk_at bk_cX8_readCommon_78 12 rfl)
theorem dX8_readCommon_91 : decode cX8_readCommon 91 = .ok (.iconst 0, 1) := dk_3 (blk_at bk_cX8_readCommon_78 13 rfl)
theorem dX8_readCommon_92 : decode cX8_readCommon 92 = .ok (.bipush 23, 2) := dq_16 bk_cX8_readCommon_78 14 rfl (by decide)
theorem dX8_readCommon_94 : decode cX8_readCommon 94 = .ok (.invokevirtual 218, 3) := dq_182 bk_cX8_readCommon_78 16 rfl rfl
theorem dX8_readCommon_97 : decode cX8_readCommon 97 = .ok (.iastore, 1) := dk_79 (blk_at bk_cX8_readCommon_78 19 rfl)
theorem dX8_readCommon_98 : decode cX8_readCommon 98 = .ok (.aload_n 0, 1) := dk_42 (blk_at bk_cX8_readCommon_78 20 rfl)
theorem dX8_readCommon_99 : decode cX8_readCommon 99 = .ok (.invokevirtual 104, 3) := dq_182 bk_cX8_readCommon_78 21 rfl rfl
theorem dX8_readCommon_102 : decode cX8_readCommon 102 = .ok (.ifCond .eq 30, 3) := dq_153 bk_cX8_readCommon_78 24 rfl (by decide)
theorem dX8_readCommon_105 : decode cX8_readCommon 105 = .ok (.aload_n 0, 1) := dk_42 (blk_at bk_cX8_readCommon_78 27 rfl)
theorem dX8_readCommon_106 : decode cX8_readCommon 106 = .ok (.ldc 195, 2) := dq_18 bk_cX8_readCommon_78 28 rfl rfl
theorem dX8_readCommon_108 : decode cX8_readCommon 108 = .ok (.invokevirtual 147, 3) := dq_182 bk_cX8_readCommon_78 30 rfl rfl
theorem dX8_readCommon_111 : decode cX8_readCommon 111 = .ok (.ifCond .ne 21, 3) := dq_154 bk_cX8_readCommon_78 33 rfl (by decide)
theorem dX8_readCommon_114 : decode cX8_readCommon 114 = .ok (.aload_n 0, 1) := dk_42 (blk_at bk_cX8_readCommon_78 36 rfl)
theorem dX8_readCommon_115 : decode cX8_readCommon 115 = .ok (.ldc 196, 2) := dq_18 bk_cX8_readCommon_78 37 rfl rfl
theorem bk_cX8_readCommon_117 : (cX8_readCommon.data.toList.drop 117).take 39 = [182, 0, 147, 154, 0, 12, 42, 4, 42, 180, 0, 116, 182, 0, 157, 42, 180, 0, 27, 6, 42, 18, 196, 182, 0, 147, 153, 0, 7, 4, 167, 0, 4, 3, 79, 42, 182, 0, 104] := by decide +kernel
theorem dX8_readCommon_117 : decode cX8_readCommon 117 = .ok (.invokevirtual 147, 3) := dq_182 bk_cX8_readCommon_117 0 rfl rfl
theorem dX8_readCommon_120 : decode cX8_readCommon 120 = .ok (.ifCond .ne 12, 3) := dq_154 bk_cX8_readCommon_117 3 rfl (by decide)
theorem dX8_readCommon_123 : decode cX8_readCommon 123 = .ok (.aload_n 0, 1) := dk_42 (blk_at bk_cX8_readCommon_117 6 rfl)
theorem dX8_readCommon_124 : decode cX8_readCommon 124 = .ok (.iconst 1, 1) := dk_4 (blk_at bk_cX8_readCommon_117 7 rfl)
theorem dX8_readCommon_125 : decode cX8_readCommon 125 = .ok (.aload_n 0, 1) := dk_42 (blk_at bk_cX8_readCommon_117 8 rfl)
theorem dX8_readCommon_126 : decode cX8_readCommon 126 = .ok (.getfield 116, 3) := dq_180 bk_cX8_readCommon_117 9 rfl rfl
theorem dX8_readCommon_129 : decode cX8_readCommon 129 = .ok (.invokevirtual 157, 3) := dq_182 bk_cX8_readCommon_117 12 rfl rfl
theorem dX8_readCommon_132 : decode cX8_readCommon 132 = .ok (.aload_n 0, 1) := dk_42 (blk_at bk_cX8_readCommon_117 15 rfl)
theorem dX8_readCommon_133 : decode cX8_readCommon 133 = .ok (.getfield 27, 3) := dq_180 bk_cX8_readCommon_117 16 rfl rfl
theorem dX8_readCommon_136 : decode cX8_readCommon 136 = .ok (.iconst 3, 1) := dk_6 (blk_at bk_cX8_readCommon_117 19 rfl)
theorem dX8_readCommon_137 : decode cX8_readCommon 137 = .ok (.aload_n 0, 1) := dk_42 (blk_at bk_cX8_readCommon_117 20 rfl)
theorem dX8_readCommon_138 : decode cX8_readCommon 138 = .ok (.ldc 196, 2) := dq_18 bk_cX8_readCommon_117 21 rfl rfl
theorem dX8_readCommon_140 : decode cX8_readCommon 140 = .ok (.invokevirtual 147, 3) := dq_182 bk_cX8_readCommon_117 23 rfl rfl
theorem dX8_readCommon_143 : decode cX8_readCommon 143 = .ok (.ifCond .eq 7, 3) := dq_153 bk_cX8_readCommon_117 26 rfl (by decide)
theorem dX8_readCommon_146 : decode cX8_readCommon 146 = .ok (.iconst 1, 1) := dk_4 (blk_at bk_cX8_readCommon_117 29 rfl)
theorem dX8_readCommon_147 : decode cX8_readCommon 147 = .ok (.goto 4, 3) := dq_167 bk_cX8_readCommon_117 30 rfl (by decide)
theorem dX8_readCommon_150 : decode cX8_readCommon 150 = .ok (.iconst 0, 1) := dk_3 (blk_at bk_cX8_readCommon_117 33 rfl)
theorem dX8_readCommon_151 : decode cX8_readCommon 151 = .ok (.iastore, 1) := dk_79 (blk_at bk_cX8_readCommon_117 34 rfl)
theorem dX8_readCommon_152 : decode cX8_readCommon 152 = .ok (.aload_n 0, 1) := dk_42 (blk_at bk_cX8_readCommon_117 35 rfl)
theorem dX8_readCommon_153 : decode cX8_readCommon 153 = .ok (.invokevirtual 104, 3) := dq_182 bk_cX8_readCommon_117 36 rfl rfl
theorem bk_cX8_readCommon_156 : (cX8_readCommon.data.toList.drop 156).take 39 = [153, 0, 7, 42, 182, 0, 151, 42, 180, 0, 27, 7, 42, 3, 42, 180, 0, 16, 3, 46, 4, 100, 182, 0, 218, 79, 42, 16, 45, 182, 0, 227, 42, 180, 0, 27, 8, 42, 42] := by decide +kernel
theorem dX8_readCommon_156 : decode cX8_readCommon 156 = .ok (.ifCond .eq 7, 3) := dq_153 bk_cX8_readCommon_156 0 rfl (by decide)
theorem dX8_readCommon_159 : decode cX8_readCommon 159 = .ok (.aload_n 0, 1) := dk_42 (blk_at bk_cX8_readCommon_156 3 rfl)
theorem dX8_readCommon_160 : decode cX8_readCommon 160 = .ok (.invokevirtual 151, 3) := dq_182 bk_cX8_readCommon_156 4 rfl rfl
theorem dX8_readCommon_163 : decode cX8_readCommon 163 = .ok (.aload_n 0, 1) := dk_42 (blk_at bk_cX8_readCommon_156 7 rfl)
theorem dX8_readCommon_164 : decode cX8_readCommon 164 = .ok (.getfield 27, 3) := dq_180 bk_cX8_readCommon_156 8 rfl rfl
theorem dX8_readCommon_167 : decode cX8_readCommon 167 = .ok (.iconst 4, 1) := dk_7 (blk_at bk_cX8_readCommon_156 11 rfl)
theorem dX8_readCommon_168 : decode cX8_readCommon 168 = .ok (.aload_n 0, 1) := dk_42 (blk_at bk_cX8_readCommon_156 12 rfl)
theorem dX8_readCommon_169 : decode cX8_readCommon 169 = .ok (.iconst 0, 1) := dk_3 (blk_at bk_cX8_readCommon_156 13 rfl)
theorem dX8_readCommon_170 : decode cX8_readCommon 170 = .ok (.aload_n 0, 1) := dk_42 (blk_at bk_cX8_readCommon_156 14 rfl)
theorem dX8_readCommon_171 : decode cX8_readCommon 171 = .ok (.getfield 16, 3) := dq_180 bk_cX8_readCommon_156 15 rfl rfl
theorem dX8_readCommon_174 : decode cX8_readCommon 174 = .ok (.iconst 0, 1) := dk_3 (blk_at bk_cX8_readCommon_156 18 rfl)
theorem dX8_readCommon_175 : decode cX8_readCommon 175 = .ok (.iaload, 1) := dk_46 (blk_at bk_cX8_readCommon_156 19 rfl)
theorem dX8_readCommon_176 : decode cX8_readCommon 176 = .ok (.iconst 1, 1) := dk_4 (blk_at bk_cX8_readCommon_156 20 rfl)
theorem dX8_readCommon_177 : decode cX8_readCommon 177 = .ok (.isub, 1) := dk_100 (blk_at bk_cX8_readCommon_156 21 rfl)
theorem dX8_readCommon_178 : decode cX8_readCommon 178 = .ok (.invokevirtual 218, 3) := dq_182 bk_cX8_readCommon_156 22 rfl rfl
theorem dX8_readCommon_181 : decode cX8_readCommon 181 = .ok (.iastore, 1) := dk_79 (blk_at bk_cX8_readCommon_156 25 rfl)
theorem dX8_readCommon_182 : decode cX8_readCommon 182 = .ok (.aload_n 0, 1) := dk_42 (blk_at bk_cX8_readCommon_156 26 rfl)
theorem dX8_readCommon_183 : decode cX8_readCommon 183 = .ok (.bipush 45, 2) := dq_16 bk_cX8_readCommon_156 27 rfl (by decide)
theorem dX8_readCommon_185 : decode cX8_readCommon 185 = .ok (.invokevirtual 227, 3) := dq_182 bk_cX8_readCommon_156 29 rfl rfl
theorem dX8_readCommon_188 : decode cX8_readCommon 188 = .ok (.aload_n 0, 1) := dk_42 (blk_at bk_cX8_readCommon_156 32 rfl)
theorem dX8_readCommon_189 : decode cX8_readCommon 189 = .ok (.getfield 27, 3) := dq_180 bk_cX8_readCommon_156 33 rfl rfl
theorem dX8_readCommon_192 : decode cX8_readCommon 192 = .ok (.iconst 5, 1) := dk_8 (blk_at bk_cX8_readCommon_156 36 rfl)
theorem dX8_readCommon_193 : decode cX8_readCommon 193 = .ok (.aload_n 0, 1) := dk_42 (blk_at bk_cX8_readCommon_156 37 rfl)
theorem dX8_readCommon_194 : decode cX8_readCommon 194 = .ok (.aload_n 0, 1) := dk_42 (blk_at bk_cX8_readCommon_156 38 rfl)
theorem bk_cX8_readCommon_195 : (cX8_readCommon.data.toList.drop 195).take 20 = [180, 0, 27, 7, 46, 7, 96, 42, 180, 0, 16, 3, 46, 4, 100, 182, 0, 218, 79, 177] := by decide +kernel
theorem dX8_readCommon_195 : decode cX8_readCommon 195 = .ok (.getfield 27, 3) := dq_180 bk_cX8_readCommon_195 0 rfl rfl
theorem dX8_readCommon_198 : decode cX8_readCommon 198 = .ok (.iconst 4, 1) := dk_7 (blk_at bk_cX8_readCommon_195 3 rfl)
theorem dX8_readCommon_199 : decode cX8_readCommon 199 = .ok (.iaload, 1) := dk_46 (blk_at bk_cX8_readCommon_195 4 rfl)
theorem dX8_readCommon_200 : decode cX8_readCommon 200 = .ok (.iconst 4, 1) := dk_7 (blk_at bk_cX8_readCommon_195 5 rfl)
theorem dX8_readCommon_201 : decode cX8_readCommon 201 = .ok (.iadd, 1) := dk_96 (blk_at bk_cX8_readCommon_195 6 rfl)
theorem dX8_readCommon_202 : decode cX8_readCommon 202 = .ok (.aload_n 0, 1) := dk_42 (blk_at bk_cX8_readCommon_195 7 rfl)
theorem dX8_readCommon_203 : decode cX8_readCommon 203 = .ok (.getfield 16, 3) := dq_180 bk_cX8_readCommon_195 8 rfl rfl
theorem dX8_readCommon_206 : decode cX8_readCommon 206 = .ok (.iconst 0, 1) := dk_3 (blk_at bk_cX8_readCommon_195 11 rfl)
theorem dX8_readCommon_207 : decode cX8_readCommon 207 = .ok (.iaload, 1) := dk_46 (blk_at bk_cX8_readCommon_195 12 rfl)
theorem dX8_readCommon_208 : decode cX8_readCommon 208 = .ok (.iconst 1, 1) := dk_4 (blk_at bk_cX8_readCommon_195 13 rfl)
theorem dX8_readCommon_209 : decode cX8_readCommon 209 = .ok (.isub, 1) := dk_100 (blk_at bk_cX8_readCommon_195 14 rfl)
theorem dX8_readCommon_210 : decode cX8_readCommon 210 = .ok (.invokevirtual 218, 3) := dq_182 bk_cX8_readCommon_195 15 rfl rfl
theorem dX8_readCommon_213 : decode cX8_readCommon 213 = .ok (.iastore, 1) := dk_79 (blk_at bk_cX8_readCommon_195 18 rfl)
theorem dX8_readCommon_214 : decode cX8_readCommon 214 = .ok (.return_, 1) := dk_177 (blk_at bk_cX8_readCommon_195 19 rfl)
theorem bk_cX8_addsSeries_0 : (cX8_addsSeries.data.toList.drop 0).take 38 = [42, 180, 0, 16, 5, 46, 54, 5, 3, 54, 6, 21, 6, 16, 12, 162, 0, 18, 42, 21, 5, 21, 6, 3, 182, 0, 230, 132, 6, 1, 167, 255, 237, 42, 21, 5, 3, 42] := by decide +kernel
theorem dX8_addsSeries_0 : decode cX8_addsSeries 0 = .ok (.aload_n 0, 1) := dk_42 (blk_at bk_cX8_addsSeries_0 0 rfl)
theorem dX8_addsSeries_1 : decode cX8_addsSeries 1 = .ok (.getfield 16, 3) := dq_180 bk_cX8_addsSeries_0 1 rfl rfl
theorem dX8_addsSeries_4 : decode cX8_addsSeries 4 = .ok (.iconst 2, 1) := dk_5 (blk_at bk_cX8_addsSeries_0 4 rfl)
theorem dX8_addsSeries_5 : decode cX8_addsSeries 5 = .ok (.iaload, 1) := dk_46 (blk_at bk_cX8_addsSeries_0 5 rfl)
theorem dX8_addsSeries_6 : decode cX8_addsSeries 6 = .ok (.istore 5, 2) := dq_54 bk_cX8_addsSeries_0 6 rfl rfl
theorem dX8_addsSeries_8 : decode cX8_addsSeries 8 = .ok (.iconst 0, 1) := dk_3 (blk_at bk_cX8_addsSeries_0 8 rfl)
theorem dX8_addsSeries_9 : decode cX8_addsSeries 9 = .ok (.istore 6, 2) := dq_54 bk_cX8_addsSeries_0 9 rfl rfl
theorem dX8_addsSeries_11 : decode cX8_addsSeries 11 = .ok (.iload 6, 2) := dq_21 bk_cX8_addsSeries_0 11 rfl rfl
theorem dX8_addsSeries_13 : decode cX8_addsSeries 13 = .ok (.bipush 12, 2) := dq_16 bk_cX8_addsSeries_0 13 rfl (by decide)
theorem dX8_addsSeries_15 : decode cX8_addsSeries 15 = .ok (.if_icmp .ge 18, 3) := dq_162 bk_cX8_addsSeries_0 15 rfl (by decide)
theorem dX8_addsSeries_18 : decode cX8_addsSeries 18 = .ok (.aload_n 0, 1) := dk_42 (blk_at bk_cX8_addsSeries_0 18 rfl)
theorem dX8_addsSeries_19 : decode cX8_addsSeries 19 = .ok (.iload 5, 2) := dq_21 bk_cX8_addsSeries_0 19 rfl rfl
theorem dX8_addsSeries_21 : decode cX8_addsSeries 21 = .ok (.iload 6, 2) := dq_21 bk_cX8_addsSeries_0 21 rfl rfl
theorem dX8_addsSeries_23 : decode cX8_addsSeries 23 = .ok (.iconst 0, 1) := dk_3 (blk_at bk_cX8_addsSeries_0 23 rfl)
theorem dX8_addsSeries_24 : decode cX8_addsSeries 24 = .ok (.invokevirtual 230, 3) := dq_182 bk_cX8_addsSeries_0 24 rfl rfl
theorem dX8_addsSeries_27 : decode cX8_addsSeries 27 = .ok (.iinc 6 1, 3) := dq_132 bk_cX8_addsSeries_0 27 rfl rfl (by decide)
theorem dX8_addsSeries_30 : decode cX8_addsSeries 30 = .ok (.goto (-19), 3) := dq_167 bk_cX8_addsSeries_0 30 rfl (by decide)
theorem dX8_addsSeries_33 : decode cX8_addsSeries 33 = .ok (.aload_n 0, 1) := dk_42 (blk_at bk_cX8_addsSeries_0 33 rfl)
theorem dX8_addsSeries_34 : decode cX8_addsSeries 34 = .ok (.iload 5, 2) := dq_21 bk_cX8_addsSeries_0 34 rfl rfl
theorem dX8_addsSeries_36 : decode cX8_addsSeries 36 = .ok (.iconst 0, 1) := dk_3 (blk_at bk_cX8_addsSeries_0 36 rfl)
theorem dX8_addsSeries_37 : decode cX8_addsSeries 37 = .ok (.aload_n 0, 1) := dk_42 (blk_at bk_cX8_addsSeries_0 37 rfl)
theorem bk_cX8_addsSeries_38 : (cX8_addsSeries.data.toList.drop 38).take 39 = [180, 0, 27, 3, 46, 182, 0, 230, 42, 21, 5, 4, 42, 180, 0, 27, 4, 46, 182, 0, 230, 42, 21, 5, 5, 27, 182, 0, 230, 42, 21, 5, 6, 42, 180, 0, 27, 6, 46] := by decide +kernel
theorem dX8_addsSeries_38 : decode cX8_addsSeries 38 = .ok (.getfield 27, 3) := dq_180 bk_cX8_addsSeries_38 0 rfl rfl
theorem dX8_addsSeries_41 : decode cX8_addsSeries 41 = .ok (.iconst 0, 1) := dk_3 (blk_at bk_cX8_addsSeries_38 3 rfl)
theorem dX8_addsSeries_42 : decode cX8_addsSeries 42 = .ok (.iaload, 1) := dk_46 (blk_at bk_cX8_addsSeries_38 4 rfl)
theorem dX8_addsSeries_43 : decode cX8_addsSeries 43 = .ok (.invokevirtual 230, 3) := dq_182 bk_cX8_addsSeries_38 5 rfl rfl
theorem dX8_addsSeries_46 : decode cX8_addsSeries 46 = .ok (.aload_n 0, 1) := dk_42 (blk_at bk_cX8_addsSeries_38 8 rfl)
theorem dX8_addsSeries_47 : decode cX8_addsSeries 47 = .ok (.iload 5, 2) := dq_21 bk_cX8_addsSeries_38 9 rfl rfl
theorem dX8_addsSeries_49 : decode cX8_addsSeries 49 = .ok (.iconst 1, 1) := dk_4 (blk_at bk_cX8_addsSeries_38 11 rfl)
theorem dX8_addsSeries_50 : decode cX8_addsSeries 50 = .ok (.aload_n 0, 1) := dk_42 (blk_at bk_cX8_addsSeries_38 12 rfl)
theorem dX8_addsSeries_51 : decode cX8_addsSeries 51 = .ok (.getfield 27, 3) := dq_180 bk_cX8_addsSeries_38 13 rfl rfl
theorem dX8_addsSeries_54 : decode cX8_addsSeries 54 = .ok (.iconst 1, 1) := dk_4 (blk_at bk_cX8_addsSeries_38 16 rfl)
theorem dX8_addsSeries_55 : decode cX8_addsSeries 55 = .ok (.iaload, 1) := dk_46 (blk_at bk_cX8_addsSeries_38 17 rfl)
theorem dX8_addsSeries_56 : decode cX8_addsSeries 56 = .ok (.invokevirtual 230, 3) := dq_182 bk_cX8_addsSeries_38 18 rfl rfl
theorem dX8_addsSeries_59 : decode cX8_addsSeries 59 = .ok (.aload_n 0, 1) := dk_42 (blk_at bk_cX8_addsSeries_38 21 rfl)
theorem dX8_addsSeries_60 : decode cX8_addsSeries 60 = .ok (.iload 5, 2) := dq_21 bk_cX8_addsSeries_38 22 rfl rfl
theorem dX8_addsSeries_62 : decode cX8_addsSeries 62 = .ok (.iconst 2, 1) := dk_5 (blk_at bk_cX8_addsSeries_38 24 rfl)
theorem dX8_addsSeries_63 : decode cX8_addsSeries 63 = .ok (.iload_n 1, 1) := dk_27 (blk_at bk_cX8_addsSeries_38 25 rfl)
theorem dX8_addsSeries_64 : decode cX8_addsSeries 64 = .ok (.invokevirtual 230, 3) := dq_182 bk_cX8_addsSeries_38 26 rfl rfl
theorem dX8_addsSeries_67 : decode cX8_addsSeries 67 = .ok (.aload_n 0, 1) := dk_42 (blk_at bk_cX8_addsSeries_38 29 rfl)
theorem dX8_addsSeries_68 : decode cX8_addsSeries 68 = .ok (.iload 5, 2) := dq_21 bk_cX8_addsSeries_38 30 rfl rfl
theorem dX8_addsSeries_70 : decode cX8_addsSeries 70 = .ok (.iconst 3, 1) := dk_6 (blk_at bk_cX8_addsSeries_38 32 rfl)
theorem dX8_addsSeries_71 : decode cX8_addsSeries 71 = .ok (.aload_n 0, 1) := dk_42 (blk_at bk_cX8_addsSeries_38 33 rfl)
theorem dX8_addsSeries_72 : decode cX8_addsSeries 72 = .ok (.getfield 27, 3) := dq_180 bk_cX8_addsSeries_38 34 rfl rfl
theorem dX8_addsSeries_75 : decode cX8_addsSeries 75 = .ok (.iconst 3, 1) := dk_6 (blk_at bk_cX8_addsSeries_38 37 rfl)
theorem dX8_addsSeries_76 : decode cX8_addsSeries 76 = .ok (.iaload, 1) := dk_46 (blk_at bk_cX8_addsSeries_38 38 rfl)
theorem bk_cX8_addsSeries_77 : (cX8_addsSeries.data.toList.drop 77).take 39 = [182, 0, 230, 42, 21, 5, 7, 21, 4, 153, 0, 7, 4, 167, 0, 4, 3, 182, 0, 230, 42, 21, 5, 8, 29, 182, 0, 230, 42, 21, 5, 16, 6, 42, 180, 0, 27, 8, 46] := by decide +kernel
theorem dX8_addsSeries_77 : decode cX8_addsSeries 77 = .ok (.invokevirtual 230, 3) := dq_182 bk_cX8_addsSeries_77 0 rfl rfl
theorem dX8_addsSeries_80 : decode cX8_addsSeries 80 = .ok (.aload_n 0, 1) := dk_42 (blk_at bk_cX8_addsSeries_77 3 rfl)
theorem dX8_addsSeries_81 : decode cX8_addsSeries 81 = .ok (.iload 5, 2) := dq_21 bk_cX8_addsSeries_77 4 rfl rfl
theorem dX8_addsSeries_83 : decode cX8_addsSeries 83 = .ok (.iconst 4, 1) := dk_7 (blk_at bk_cX8_addsSeries_77 6 rfl)
theorem dX8_addsSeries_84 : decode cX8_addsSeries 84 = .ok (.iload 4, 2) := dq_21 bk_cX8_addsSeries_77 7 rfl rfl
theorem dX8_addsSeries_86 : decode cX8_addsSeries 86 = .ok (.ifCond .eq 7, 3) := dq_153 bk_cX8_addsSeries_77 9 rfl (by decide)
theorem dX8_addsSeries_89 : decode cX8_addsSeries 89 = .ok (.iconst 1, 1) := dk_4 (blk_at bk_cX8_addsSeries_77 12 rfl)
theorem dX8_addsSeries_90 : decode cX8_addsSeries 90 = .ok (.goto 4, 3) := dq_167 bk_cX8_addsSeries_77 13 rfl (by decide)
theorem dX8_addsSeries_93 : decode cX8_addsSeries 93 = .ok (.iconst 0, 1) := dk_3 (blk_at bk_cX8_addsSeries_77 16 rfl)
theorem dX8_addsSeries_94 : decode cX8_addsSeries 94 = .ok (.invokevirtual 230, 3) := dq_182 bk_cX8_addsSeries_77 17 rfl rfl
theorem dX8_addsSeries_97 : decode cX8_addsSeries 97 = .ok (.aload_n 0, 1) := dk_42 (blk_at bk_cX8_addsSeries_77 20 rfl)
theorem dX8_addsSeries_98 : decode cX8_addsSeries 98 = .ok (.iload 5, 2) := dq_21 bk_cX8_addsSeries_77 21 rfl rfl
theorem dX8_addsSeries_100 : decode cX8_addsSeries 100 = .ok (.iconst 5, 1) := dk_8 (blk_at bk_cX8_addsSeries_77 23 rfl)
theorem dX8_addsSeries_101 : decode cX8_addsSeries 101 = .ok (.iload_n 3, 1) := dk_29 (blk_at bk_cX8_addsSeries_77 24 rfl)
theorem dX8_addsSeries_102 : decode cX8_addsSeries 102 = .ok (.invokevirtual 230, 3) := dq_182 bk_cX8_addsSeries_77 25 rfl rfl
theorem dX8_addsSeries_105 : decode cX8_addsSeries 105 = .ok (.aload_n 0, 1) := dk_42 (blk_at bk_cX8_addsSeries_77 28 rfl)
theorem dX8_addsSeries_106 : decode cX8_addsSeries 106 = .ok (.iload 5, 2) := dq_21 bk_cX8_addsSeries_77 29 rfl rfl
theorem dX8_addsSeries_108 : decode cX8_addsSeries 108 = .ok (.bipush 6, 2) := dq_16 bk_cX8_addsSeries_77 31 rfl (by decide)
theorem dX8_addsSeries_110 : decode cX8_addsSeries 110 = .ok (.aload_n 0, 1) := dk_42 (blk_at bk_cX8_addsSeries_77 33 rfl)
theorem dX8_addsSeries_111 : decode cX8_addsSeries 111 = .ok (.getfield 27, 3) := dq_180 bk_cX8_addsSeries_77 34 rfl rfl
theorem dX8_addsSeries_114 : decode cX8_addsSeries 114 = .ok (.iconst 5, 1) := dk_8 (blk_at bk_cX8_addsSeries_77 37 rfl)
theorem dX8_addsSeries_115 : decode cX8_addsSeries 115 = .ok (.iaload, 1) := dk_46 (blk_at bk_cX8_addsSeries_77 38 rfl)
theorem bk_cX8_addsSeries_116 : (cX8_addsSeries.data.toList.drop 116).take 23 = [182, 0, 230, 42, 21, 5, 16, 7, 28, 182, 0, 230, 42, 180, 0, 16, 5, 92, 46, 4, 96, 79, 177] := by decide +kernel
theorem dX8_addsSeries_116 : decode cX8_addsSeries 116 = .ok (.invokevirtual 230, 3) := dq_182 bk_cX8_addsSeries_116 0 rfl rfl
theorem dX8_addsSeries_119 : decode cX8_addsSeries 119 = .ok (.aload_n 0, 1) := dk_42 (blk_at bk_cX8_addsSeries_116 3 rfl)
theorem dX8_addsSeries_120 : decode cX8_addsSeries 120 = .ok (.iload 5, 2) := dq_21 bk_cX8_addsSeries_116 4 rfl rfl
theorem dX8_addsSeries_122 : decode cX8_addsSeries 122 = .ok (.bipush 7, 2) := dq_16 bk_cX8_addsSeries_116 6 rfl (by decide)
theorem dX8_addsSeries_124 : decode cX8_addsSeries 124 = .ok (.iload_n 2, 1) := dk_28 (blk_at bk_cX8_addsSeries_116 8 rfl)
theorem dX8_addsSeries_125 : decode cX8_addsSeries 125 = .ok (.invokevirtual 230, 3) := dq_182 bk_cX8_addsSeries_116 9 rfl rfl
theorem dX8_addsSeries_128 : decode cX8_addsSeries 128 = .ok (.aload_n 0, 1) := dk_42 (blk_at bk_cX8_addsSeries_116 12 rfl)
theorem dX8_addsSeries_129 : decode cX8_addsSeries 129 = .ok (.getfield 16, 3) := dq_180 bk_cX8_addsSeries_116 13 rfl rfl
theorem dX8_addsSeries_132 : decode cX8_addsSeries 132 = .ok (.iconst 2, 1) := dk_5 (blk_at bk_cX8_addsSeries_116 16 rfl)
theorem dX8_addsSeries_133 : decode cX8_addsSeries 133 = .ok (.dup2, 1) := dk_92 (blk_at bk_cX8_addsSeries_116 17 rfl)
theorem dX8_addsSeries_134 : decode cX8_addsSeries 134 = .ok (.iaload, 1) := dk_46 (blk_at bk_cX8_addsSeries_116 18 rfl)
theorem dX8_addsSeries_135 : decode cX8_addsSeries 135 = .ok (.iconst 1, 1) := dk_4 (blk_at bk_cX8_addsSeries_116 19 rfl)
theorem dX8_addsSeries_136 : decode cX8_addsSeries 136 = .ok (.iadd, 1) := dk_96 (blk_at bk_cX8_addsSeries_116 20 rfl)
theorem dX8_addsSeries_137 : decode cX8_addsSeries 137 = .ok (.iastore, 1) := dk_79 (blk_at bk_cX8_addsSeries_116 21 rfl)
theorem dX8_addsSeries_138 : decode cX8_addsSeries 138 = .ok (.return_, 1) := dk_177 (blk_at bk_cX8_addsSeries_116 22 rfl)
theorem bk_cX8_readSeries_0 : (cX8_readSeries.data.toList.drop 0).take 38 = [42, 180, 0, 16, 5, 46, 16, 24, 160, 0, 12, 42, 8, 42, 180, 0, 116, 182, 0, 157, 42, 18, 191, 182, 0, 211, 42, 182, 0, 234, 42, 18, 197, 182, 0, 154, 60, 42] := by decide +kernel
theorem dX8_readSeries_0 : decode cX8_readSeries 0 = .ok (.aload_n 0, 1) := dk_42 (blk_at bk_cX8_readSeries_0 0 rfl)
theorem dX8_readSeries_1 : decode cX8_readSeries 1 = .ok (.getfield 16, 3) := dq_180 bk_cX8_readSeries_0 1 rfl rfl
theorem dX8_readSeries_4 : decode cX8_readSeries 4 = .ok (.iconst 2, 1) := dk_5 (blk_at bk_cX8_readSeries_0 4 rfl)
theorem dX8_readSeries_5 : decode cX8_readSeries 5 = .ok (.iaload, 1) := dk_46 (blk_at bk_cX8_readSeries_0 5 rfl)
theorem dX8_readSeries_6 : decode cX8_readSeries 6 = .ok (.bipush 24, 2) := dq_16 bk_cX8_readSeries_0 6 rfl (by decide)
theorem dX8_readSeries_8 : decode cX8_readSeries 8 = .ok (.if_icmp .ne 12, 3) := dq_160 bk_cX8_readSeries_0 8 rfl (by decide)
theorem dX8_readSeries_11 : decode cX8_readSeries 11 = .ok (.aload_n 0, 1) := dk_42 (blk_at bk_cX8_readSeries_0 11 rfl)
theorem dX8_readSeries_12 : decode cX8_readSeries 12 = .ok (.iconst 5, 1) := dk_8 (blk_at bk_cX8_readSeries_0 12 rfl)
theorem dX8_readSeries_13 : decode cX8_readSeries 13 = .ok (.aload_n 0, 1) := dk_42 (blk_at bk_cX8_readSeries_0 13 rfl)
theorem dX8_readSeries_14 : decode cX8_readSeries 14 = .ok (.getfield 116, 3) := dq_180 bk_cX8_readSeries_0 14 rfl rfl
theorem dX8_readSeries_17 : decode cX8_readSeries 17 = .ok (.invokevirtual 157, 3) := dq_182 bk_cX8_readSeries_0 17 rfl rfl
theorem dX8_readSeries_20 : decode cX8_readSeries 20 = .ok (.aload_n 0, 1) := dk_42 (blk_at bk_cX8_readSeries_0 20 rfl)
theorem dX8_readSeries_21 : decode cX8_readSeries 21 = .ok (.ldc 191, 2) := dq_18 bk_cX8_readSeries_0 21 rfl rfl
theorem dX8_readSeries_23 : decode cX8_readSeries 23 = .ok (.invokevirtual 211, 3) := dq_182 bk_cX8_readSeries_0 23 rfl rfl
theorem dX8_readSeries_26 : decode cX8_readSeries 26 = .ok (.aload_n 0, 1) := dk_42 (blk_at bk_cX8_readSeries_0 26 rfl)
theorem dX8_readSeries_27 : decode cX8_readSeries 27 = .ok (.invokevirtual 234, 3) := dq_182 bk_cX8_readSeries_0 27 rfl rfl
theorem dX8_readSeries_30 : decode cX8_readSeries 30 = .ok (.aload_n 0, 1) := dk_42 (blk_at bk_cX8_readSeries_0 30 rfl)
theorem dX8_readSeries_31 : decode cX8_readSeries 31 = .ok (.ldc 197, 2) := dq_18 bk_cX8_readSeries_0 31 rfl rfl
theorem dX8_readSeries_33 : decode cX8_readSeries 33 = .ok (.invokevirtual 154, 3) := dq_182 bk_cX8_readSeries_0 33 rfl rfl
theorem dX8_readSeries_36 : decode cX8_readSeries 36 = .ok (.istore_n 1, 1) := dk_60 (blk_at bk_cX8_readSeries_0 36 rfl)
theorem dX8_readSeries_37 : decode cX8_readSeries 37 = .ok (.aload_n 0, 1) := dk_42 (blk_at bk_cX8_readSeries_0 37 rfl)
theorem bk_cX8_readSeries_38 : (cX8_readSeries.data.toList.drop 38).take 40 = [182, 0, 104, 153, 0, 21, 42, 16, 59, 182, 0, 161, 154, 0, 12, 42, 4, 42, 180, 0, 116, 182, 0, 157, 42, 180, 0, 27, 7, 46, 42, 180, 0, 27, 8, 46, 184, 0, 79, 61] := by decide +kernel
theorem dX8_readSeries_38 : decode cX8_readSeries 38 = .ok (.invokevirtual 104, 3) := dq_182 bk_cX8_readSeries_38 0 rfl rfl
theorem dX8_readSeries_41 : decode cX8_readSeries 41 = .ok (.ifCond .eq 21, 3) := dq_153 bk_cX8_readSeries_38 3 rfl (by decide)
theorem dX8_readSeries_44 : decode cX8_readSeries 44 = .ok (.aload_n 0, 1) := dk_42 (blk_at bk_cX8_readSeries_38 6 rfl)
theorem dX8_readSeries_45 : decode cX8_readSeries 45 = .ok (.bipush 59, 2) := dq_16 bk_cX8_readSeries_38 7 rfl (by decide)
theorem dX8_readSeries_47 : decode cX8_readSeries 47 = .ok (.invokevirtual 161, 3) := dq_182 bk_cX8_readSeries_38 9 rfl rfl
theorem dX8_readSeries_50 : decode cX8_readSeries 50 = .ok (.ifCond .ne 12, 3) := dq_154 bk_cX8_readSeries_38 12 rfl (by decide)
theorem dX8_readSeries_53 : decode cX8_readSeries 53 = .ok (.aload_n 0, 1) := dk_42 (blk_at bk_cX8_readSeries_38 15 rfl)
theorem dX8_readSeries_54 : decode cX8_readSeries 54 = .ok (.iconst 1, 1) := dk_4 (blk_at bk_cX8_readSeries_38 16 rfl)
theorem dX8_readSeries_55 : decode cX8_readSeries 55 = .ok (.aload_n 0, 1) := dk_42 (blk_at bk_cX8_readSeries_38 17 rfl)
theorem dX8_readSeries_56 : decode cX8_readSeries 56 = .ok (.getfield 116, 3) := dq_180 bk_cX8_readSeries_38 18 rfl rfl
theorem dX8_readSeries_59 : decode cX8_readSeries 59 = .ok (.invokevirtual 157, 3) := dq_182 bk_cX8_readSeries_38 21 rfl rfl
theorem dX8_readSeries_62 : decode cX8_readSeries 62 = .ok (.aload_n 0, 1) := dk_42 (blk_at bk_cX8_readSeries_38 24 rfl)
theorem dX8_readSeries_63 : decode cX8_readSeries 63 = .ok (.getfield 27, 3) := dq_180 bk_cX8_readSeries_38 25 rfl rfl
theorem dX8_readSeries_66 : decode cX8_readSeries 66 = .ok (.iconst 4, 1) := dk_7 (blk_at bk_cX8_readSeries_38 28 rfl)
theorem dX8_readSeries_67 : decode cX8_readSeries 67 = .ok (.iaload, 1) := dk_46 (blk_at bk_cX8_readSeries_38 29 rfl)
theorem dX8_readSeries_68 : decode cX8_readSeries 68 = .ok (.aload_n 0, 1) := dk_42 (blk_at bk_cX8_readSeries_38 30 rfl)
theorem dX8_readSeries_69 : decode cX8_readSeries 69 = .ok (.getfield 27, 3) := dq_180 bk_cX8_readSeries_38 31 rfl rfl
theorem dX8_readSeries_72 : decode cX8_readSeries 72 = .ok (.iconst 5, 1) := dk_8 (blk_at bk_cX8_readSeries_38 34 rfl)
theorem dX8_readSeries_73 : decode cX8_readSeries 73 = .ok (.iaload, 1) := dk_46 (blk_at bk_cX8_readSeries_38 35 rfl)
theorem dX8_readSeries_74 : decode cX8_readSeries 74 = .ok (.invokestatic 79, 3) := dq_184 bk_cX8_readSeries_38 36 rfl rfl
theorem dX8_readSeries_77 : decode cX8_readSeries 77 = .ok (.istore_n 2, 1) := dk_61 (blk_at bk_cX8_readSeries_38 39 rfl)
theorem bk_cX8_readSeries_78 : (cX8_readSeries.data.toList.drop 78).take 38 = [42, 182, 0, 104, 153, 0, 40, 42, 28, 42, 180, 0, 27, 4, 46, 42, 180, 0, 27, 5, 46, 42, 180, 0, 27, 6, 46, 2, 182, 0, 90, 154, 0, 13, 42, 16, 6, 42] := by decide +kernel
theorem dX8_readSeries_78 : decode cX8_readSeries 78 = .ok (.aload_n 0, 1) := dk_42 (blk_at bk_cX8_readSeries_78 0 rfl)
theorem dX8_readSeries_79 : decode cX8_readSeries 79 = .ok (.invokevirtual 104, 3) := dq_182 bk_cX8_readSeries_78 1 rfl rfl
theorem dX8_readSeries_82 : decode cX8_readSeries 82 = .ok (.ifCond .eq 40, 3) := dq_153 bk_cX8_readSeries_78 4 rfl (by decide)
theorem dX8_readSeries_85 : decode cX8_readSeries 85 = .ok (.aload_n 0, 1) := dk_42 (blk_at bk_cX8_readSeries_78 7 rfl)
theorem dX8_readSeries_86 : decode cX8_readSeries 86 = .ok (.iload_n 2, 1) := dk_28 (blk_at bk_cX8_readSeries_78 8 rfl)
theorem dX8_readSeries_87 : decode cX8_readSeries 87 = .ok (.aload_n 0, 1) := dk_42 (blk_at bk_cX8_readSeries_78 9 rfl)
theorem dX8_readSeries_88 : decode cX8_readSeries 88 = .ok (.getfield 27, 3) := dq_180 bk_cX8_readSeries_78 10 rfl rfl
theorem dX8_readSeries_91 : decode cX8_readSeries 91 = .ok (.iconst 1, 1) := dk_4 (blk_at bk_cX8_readSeries_78 13 rfl)
theorem dX8_readSeries_92 : decode cX8_readSeries 92 = .ok (.iaload, 1) := dk_46 (blk_at bk_cX8_readSeries_78 14 rfl)
theorem dX8_readSeries_93 : decode cX8_readSeries 93 = .ok (.aload_n 0, 1) := dk_42 (blk_at bk_cX8_readSeries_78 15 rfl)
theorem dX8_readSeries_94 : decode cX8_readSeries 94 = .ok (.getfield 27, 3) := dq_180 bk_cX8_readSeries_78 16 rfl rfl
theorem dX8_readSeries_97 : decode cX8_readSeries 97 = .ok (.iconst 2, 1) := dk_5 (blk_at bk_cX8_readSeries_78 19 rfl)
theorem dX8_readSeries_98 : decode cX8_readSeries 98 = .ok (.iaload, 1) := dk_46 (blk_at bk_cX8_readSeries_78 20 rfl)
theorem dX8_readSeries_99 : decode cX8_readSeries 99 = .ok (.aload_n 0, 1) := dk_42 (blk_at bk_cX8_readSeries_78 21 rfl)
theorem dX8_readSeries_100 : decode cX8_readSeries 100 = .ok (.getfield 27, 3) := dq_180 bk_cX8_readSeries_78 22 rfl rfl
theorem dX8_readSeries_103 : decode cX8_readSeries 103 = .ok (.iconst 3, 1) := dk_6 (blk_at bk_cX8_readSeries_78 25 rfl)
theorem dX8_readSeries_104 : decode cX8_readSeries 104 = .ok (.iaload, 1) := dk_46 (blk_at bk_cX8_readSeries_78 26 rfl)
theorem dX8_readSeries_105 : decode cX8_readSeries 105 = .ok (.iconst (-1), 1) := dk_2 (blk_at bk_cX8_readSeries_78 27 rfl)
theorem dX8_readSeries_106 : decode cX8_readSeries 106 = .ok (.invokevirtual 90, 3) := dq_182 bk_cX8_readSeries_78 28 rfl rfl
theorem dX8_readSeries_109 : decode cX8_readSeries 109 = .ok (.ifCond .ne 13, 3) := dq_154 bk_cX8_readSeries_78 31 rfl (by decide)
theorem dX8_readSeries_112 : decode cX8_readSeries 112 = .ok (.aload_n 0, 1) := dk_42 (blk_at bk_cX8_readSeries_78 34 rfl)
theorem dX8_readSeries_113 : decode cX8_readSeries 113 = .ok (.bipush 6, 2) := dq_16 bk_cX8_readSeries_78 35 rfl (by decide)
theorem dX8_readSeries_115 : decode cX8_readSeries 115 = .ok (.aload_n 0, 1) := dk_42 (blk_at bk_cX8_readSeries_78 37 rfl)
theorem bk_cX8_readSeries_116 : (cX8_readSeries.data.toList.drop 116).take 38 = [180, 0, 116, 182, 0, 157, 42, 182, 0, 104, 154, 0, 4, 177, 42, 42, 180, 0, 27, 5, 46, 28, 42, 180, 0, 27, 7, 46, 27, 182, 0, 237, 42, 4, 181, 0, 207, 177] := by decide +kernel
theorem dX8_readSeries_116 : decode cX8_readSeries 116 = .ok (.getfield 116, 3) := dq_180 bk_cX8_readSeries_116 0 rfl rfl
theorem dX8_readSeries_119 : decode cX8_readSeries 119 = .ok (.invokevirtual 157, 3) := dq_182 bk_cX8_readSeries_116 3 rfl rfl
theorem dX8_readSeries_122 : decode cX8_readSeries 122 = .ok (.aload_n 0, 1) := dk_42 (blk_at bk_cX8_readSeries_116 6 rfl)
theorem dX8_readSeries_123 : decode cX8_readSeries 123 = .ok (.invokevirtual 104, 3) := dq_182 bk_cX8_readSeries_116 7 rfl rfl
theorem dX8_readSeries_126 : decode cX8_readSeries 126 = .ok (.ifCond .ne 4, 3) := dq_154 bk_cX8_readSeries_116 10 rfl (by decide)
theorem dX8_readSeries_129 : decode cX8_readSeries 129 = .ok (.return_, 1) := dk_177 (blk_at bk_cX8_readSeries_116 13 rfl)
theorem dX8_readSeries_130 : decode cX8_readSeries 130 = .ok (.aload_n 0, 1) := dk_42 (blk_at bk_cX8_readSeries_116 14 rfl)
theorem dX8_readSeries_131 : decode cX8_readSeries 131 = .ok (.aload_n 0, 1) := dk_42 (blk_at bk_cX8_readSeries_116 15 rfl)
theorem dX8_readSeries_132 : decode cX8_readSeries 132 = .ok (.getfield 27, 3) := dq_180 bk_cX8_readSeries_116 16 rfl rfl
theorem dX8_readSeries_135 : decode cX8_readSeries 135 = .ok (.iconst 2, 1) := dk_5 (blk_at bk_cX8_readSeries_116 19 rfl)
theorem dX8_readSeries_136 : decode cX8_readSeries 136 = .ok (.iaload, 1) := dk_46 (blk_at bk_cX8_readSeries_116 20 rfl)
theorem dX8_readSeries_137 : decode cX8_readSeries 137 = .ok (.iload_n 2, 1) := dk_28 (blk_at bk_cX8_readSeries_116 21 rfl)
theorem dX8_readSeries_138 : decode cX8_readSeries 138 = .ok (.aload_n 0, 1) := dk_42 (blk_at bk_cX8_readSeries_116 22 rfl)
theorem dX8_readSeries_139 : decode cX8_readSeries 139 = .ok (.getfield 27, 3) := dq_180 bk_cX8_readSeries_116 23 rfl rfl
theorem dX8_readSeries_142 : decode cX8_readSeries 142 = .ok (.iconst 4, 1) := dk_7 (blk_at bk_cX8_readSeries_116 26 rfl)
theorem dX8_readSeries_143 : decode cX8_readSeries 143 = .ok (.iaload, 1) := dk_46 (blk_at bk_cX8_readSeries_116 27 rfl)
theorem dX8_readSeries_144 : decode cX8_readSeries 144 = .ok (.iload_n 1, 1) := dk_27 (blk_at bk_cX8_readSeries_116 28 rfl)
theorem dX8_readSeries_145 : decode cX8_readSeries 145 = .ok (.invokevirtual 237, 3) := dq_182 bk_cX8_readSeries_116 29 rfl rfl
theorem dX8_readSeries_148 : decode cX8_readSeries 148 = .ok (.aload_n 0, 1) := dk_42 (blk_at bk_cX8_readSeries_116 32 rfl)
theorem dX8_readSeries_149 : decode cX8_readSeries 149 = .ok (.iconst 1, 1) := dk_4 (blk_at bk_cX8_readSeries_116 33 rfl)
theorem dX8_readSeries_150 : decode cX8_readSeries 150 = .ok (.putfield 207, 3) := dq_181 bk_cX8_readSeries_116 34 rfl rfl
theorem dX8_readSeries_153 : decode cX8_readSeries 153 = .ok (.return_, 1) := dk_177 (blk_at bk_cX8_readSeries_116 37 rfl)
theorem bk_cX8_addsAsk_0 : (cX8_addsAsk.data.toList.drop 0).take 40 = [3, 60, 27, 16, 7, 162, 0, 35, 42, 180, 0, 16, 17, 1, 94, 16, 7, 42, 180, 0, 16, 6, 46, 104, 96, 27, 96, 42, 180, 0, 27, 27, 46, 79, 132, 1, 1, 167, 255, 221] := by decide +kernel
theorem dX8_addsAsk_0 : decode cX8_addsAsk 0 = .ok (.iconst 0, 1) := dk_3 (blk_at bk_cX8_addsAsk_0 0 rfl)
theorem dX8_addsAsk_1 : decode cX8_addsAsk 1 = .ok (.istore_n 1, 1) := dk_60 (blk_at bk_cX8_addsAsk_0 1 rfl)
theorem dX8_addsAsk_2 : decode cX8_addsAsk 2 = .ok (.iload_n 1, 1) := dk_27 (blk_at bk_cX8_addsAsk_0 2 rfl)
theorem dX8_addsAsk_3 : decode cX8_addsAsk 3 = .ok (.bipush 7, 2) := dq_16 bk_cX8_addsAsk_0 3 rfl (by decide)
theorem dX8_addsAsk_5 : decode cX8_addsAsk 5 = .ok (.if_icmp .ge 35, 3) := dq_162 bk_cX8_addsAsk_0 5 rfl (by decide)
theorem dX8_addsAsk_8 : decode cX8_addsAsk 8 = .ok (.aload_n 0, 1) := dk_42 (blk_at bk_cX8_addsAsk_0 8 rfl)
theorem dX8_addsAsk_9 : decode cX8_addsAsk 9 = .ok (.getfield 16, 3) := dq_180 bk_cX8_addsAsk_0 9 rfl rfl
theorem dX8_addsAsk_12 : decode cX8_addsAsk 12 = .ok (.sipush 350, 3) := dq_17 bk_cX8_addsAsk_0 12 rfl (by decide)
theorem dX8_addsAsk_15 : decode cX8_addsAsk 15 = .ok (.bipush 7, 2) := dq_16 bk_cX8_addsAsk_0 15 rfl (by decide)
theorem dX8_addsAsk_17 : decode cX8_addsAsk 17 = .ok (.aload_n 0, 1) := dk_42 (blk_at bk_cX8_addsAsk_0 17 rfl)
theorem dX8_addsAsk_18 : decode cX8_addsAsk 18 = .ok (.getfield 16, 3) := dq_180 bk_cX8_addsAsk_0 18 rfl rfl
theorem dX8_addsAsk_21 : decode cX8_addsAsk 21 = .ok (.iconst 3, 1) := dk_6 (blk_at bk_cX8_addsAsk_0 21 rfl)
theorem dX8_addsAsk_22 : decode cX8_addsAsk 22 = .ok (.iaload, 1) := dk_46 (blk_at bk_cX8_addsAsk_0 22 rfl)
theorem dX8_addsAsk_23 : decode cX8_addsAsk 23 = .ok (.imul, 1) := dk_104 (blk_at bk_cX8_addsAsk_0 23 rfl)
theorem dX8_addsAsk_24 : decode cX8_addsAsk 24 = .ok (.iadd, 1) := dk_96 (blk_at bk_cX8_addsAsk_0 24 rfl)
theorem dX8_addsAsk_25 : decode cX8_addsAsk 25 = .ok (.iload_n 1, 1) := dk_27 (blk_at bk_cX8_addsAsk_0 25 rfl)
theorem dX8_addsAsk_26 : decode cX8_addsAsk 26 = .ok (.iadd, 1) := dk_96 (blk_at bk_cX8_addsAsk_0 26 rfl)
theorem dX8_addsAsk_27 : decode cX8_addsAsk 27 = .ok (.aload_n 0, 1) := dk_42 (blk_at bk_cX8_addsAsk_0 27 rfl)
theorem dX8_addsAsk_28 : decode cX8_addsAsk 28 = .ok (.getfield 27, 3) := dq_180 bk_cX8_addsAsk_0 28 rfl rfl
theorem dX8_addsAsk_31 : decode cX8_addsAsk 31 = .ok (.iload_n 1, 1) := dk_27 (blk_at bk_cX8_addsAsk_0 31 rfl)
theorem dX8_addsAsk_32 : decode cX8_addsAsk 32 = .ok (.iaload, 1) := dk_46 (blk_at bk_cX8_addsAsk_0 32 rfl)
theorem dX8_addsAsk_33 : decode cX8_addsAsk 33 = .ok (.iastore, 1) := dk_79 (blk_at bk_cX8_addsAsk_0 33 rfl)
theorem dX8_addsAsk_34 : decode cX8_addsAsk 34 = .ok (.iinc 1 1, 3) := dq_132 bk_cX8_addsAsk_0 34 rfl rfl (by decide)
theorem dX8_addsAsk_37 : decode cX8_addsAsk 37 = .ok (.goto (-35), 3) := dq_167 bk_cX8_addsAsk_0 37 rfl (by decide)
theorem bk_cX8_addsAsk_40 : (cX8_addsAsk.data.toList.drop 40).take 11 = [42, 180, 0, 16, 6, 92, 46, 4, 96, 79, 177] := by decide +kernel
theorem dX8_addsAsk_40 : decode cX8_addsAsk 40 = .ok (.aload_n 0, 1) := dk_42 (blk_at bk_cX8_addsAsk_40 0 rfl)
theorem dX8_addsAsk_41 : decode cX8_addsAsk 41 = .ok (.getfield 16, 3) := dq_180 bk_cX8_addsAsk_40 1 rfl rfl
theorem dX8_addsAsk_44 : decode cX8_addsAsk 44 = .ok (.iconst 3, 1) := dk_6 (blk_at bk_cX8_addsAsk_40 4 rfl)
theorem dX8_addsAsk_45 : decode cX8_addsAsk 45 = .ok (.dup2, 1) := dk_92 (blk_at bk_cX8_addsAsk_40 5 rfl)
theorem dX8_addsAsk_46 : decode cX8_addsAsk 46 = .ok (.iaload, 1) := dk_46 (blk_at bk_cX8_addsAsk_40 6 rfl)
theorem dX8_addsAsk_47 : decode cX8_addsAsk 47 = .ok (.iconst 1, 1) := dk_4 (blk_at bk_cX8_addsAsk_40 7 rfl)
theorem dX8_addsAsk_48 : decode cX8_addsAsk 48 = .ok (.iadd, 1) := dk_96 (blk_at bk_cX8_addsAsk_40 8 rfl)
theorem dX8_addsAsk_49 : decode cX8_addsAsk 49 = .ok (.iastore, 1) := dk_79 (blk_at bk_cX8_addsAsk_40 9 rfl)
theorem dX8_addsAsk_50 : decode cX8_addsAsk 50 = .ok (.return_, 1) := dk_177 (blk_at bk_cX8_addsAsk_40 10 rfl)
theorem bk_cX8_readAsk_0 : (cX8_readAsk.data.toList.drop 0).take 39 = [42, 180, 0, 16, 6, 46, 16, 24, 160, 0, 12, 42, 8, 42, 180, 0, 116, 182, 0, 157, 42, 18, 193, 182, 0, 211, 42, 182, 0, 234, 42, 180, 0, 27, 16, 6, 42, 18, 199] := by decide +kernel
theorem dX8_readAsk_0 : decode cX8_readAsk 0 = .ok (.aload_n 0, 1) := dk_42 (blk_at bk_cX8_readAsk_0 0 rfl)
theorem dX8_readAsk_1 : decode cX8_readAsk 1 = .ok (.getfield 16, 3) := dq_180 bk_cX8_readAsk_0 1 rfl rfl
theorem dX8_readAsk_4 : decode cX8_readAsk 4 = .ok (.iconst 3, 1) := dk_6 (blk_at bk_cX8_readAsk_0 4 rfl)
theorem dX8_readAsk_5 : decode cX8_readAsk 5 = .ok (.iaload, 1) := dk_46 (blk_at bk_cX8_readAsk_0 5 rfl)
theorem dX8_readAsk_6 : decode cX8_readAsk 6 = .ok (.bipush 24, 2) := dq_16 bk_cX8_readAsk_0 6 rfl (by decide)
theorem dX8_readAsk_8 : decode cX8_readAsk 8 = .ok (.if_icmp .ne 12, 3) := dq_160 bk_cX8_readAsk_0 8 rfl (by decide)
theorem dX8_readAsk_11 : decode cX8_readAsk 11 = .ok (.aload_n 0, 1) := dk_42 (blk_at bk_cX8_readAsk_0 11 rfl)
theorem dX8_readAsk_12 : decode cX8_readAsk 12 = .ok (.iconst 5, 1) := dk_8 (blk_at bk_cX8_readAsk_0 12 rfl)
theorem dX8_readAsk_13 : decode cX8_readAsk 13 = .ok (.aload_n 0, 1) := dk_42 (blk_at bk_cX8_readAsk_0 13 rfl)
theorem dX8_readAsk_14 : decode cX8_readAsk 14 = .ok (.getfield 116, 3) := dq_180 bk_cX8_readAsk_0 14 rfl rfl
theorem dX8_readAsk_17 : decode cX8_readAsk 17 = .ok (.invokevirtual 157, 3) := dq_182 bk_cX8_readAsk_0 17 rfl rfl
theorem dX8_readAsk_20 : decode cX8_readAsk 20 = .ok (.aload_n 0, 1) := dk_42 (blk_at bk_cX8_readAsk_0 20 rfl)
theorem dX8_readAsk_21 : decode cX8_readAsk 21 = .ok (.ldc 193, 2) := dq_18 bk_cX8_readAsk_0 21 rfl rfl
theorem dX8_readAsk_23 : decode cX8_readAsk 23 = .ok (.invokevirtual 211, 3) := dq_182 bk_cX8_readAsk_0 23 rfl rfl
theorem dX8_readAsk_26 : decode cX8_readAsk 26 = .ok (.aload_n 0, 1) := dk_42 (blk_at bk_cX8_readAsk_0 26 rfl)
theorem dX8_readAsk_27 : decode cX8_readAsk 27 = .ok (.invokevirtual 234, 3) := dq_182 bk_cX8_readAsk_0 27 rfl rfl
theorem dX8_readAsk_30 : decode cX8_readAsk 30 = .ok (.aload_n 0, 1) := dk_42 (blk_at bk_cX8_readAsk_0 30 rfl)
theorem dX8_readAsk_31 : decode cX8_readAsk 31 = .ok (.getfield 27, 3) := dq_180 bk_cX8_readAsk_0 31 rfl rfl
theorem dX8_readAsk_34 : decode cX8_readAsk 34 = .ok (.bipush 6, 2) := dq_16 bk_cX8_readAsk_0 34 rfl (by decide)
theorem dX8_readAsk_36 : decode cX8_readAsk 36 = .ok (.aload_n 0, 1) := dk_42 (blk_at bk_cX8_readAsk_0 36 rfl)
theorem dX8_readAsk_37 : decode cX8_readAsk 37 = .ok (.ldc 199, 2) := dq_18 bk_cX8_readAsk_0 37 rfl rfl
theorem bk_cX8_readAsk_39 : (cX8_readAsk.data.toList.drop 39).take 30 = [182, 0, 154, 153, 0, 13, 42, 3, 16, 9, 182, 0, 218, 167, 0, 4, 3, 79, 42, 182, 0, 104, 153, 0, 7, 42, 182, 0, 241, 177] := by decide +kernel
theorem dX8_readAsk_39 : decode cX8_readAsk 39 = .ok (.invokevirtual 154, 3) := dq_182 bk_cX8_readAsk_39 0 rfl rfl
theorem dX8_readAsk_42 : decode cX8_readAsk 42 = .ok (.ifCond .eq 13, 3) := dq_153 bk_cX8_readAsk_39 3 rfl (by decide)
theorem dX8_readAsk_45 : decode cX8_readAsk 45 = .ok (.aload_n 0, 1) := dk_42 (blk_at bk_cX8_readAsk_39 6 rfl)
theorem dX8_readAsk_46 : decode cX8_readAsk 46 = .ok (.iconst 0, 1) := dk_3 (blk_at bk_cX8_readAsk_39 7 rfl)
theorem dX8_readAsk_47 : decode cX8_readAsk 47 = .ok (.bipush 9, 2) := dq_16 bk_cX8_readAsk_39 8 rfl (by decide)
theorem dX8_readAsk_49 : decode cX8_readAsk 49 = .ok (.invokevirtual 218, 3) := dq_182 bk_cX8_readAsk_39 10 rfl rfl
theorem dX8_readAsk_52 : decode cX8_readAsk 52 = .ok (.goto 4, 3) := dq_167 bk_cX8_readAsk_39 13 rfl (by decide)
theorem dX8_readAsk_55 : decode cX8_readAsk 55 = .ok (.iconst 0, 1) := dk_3 (blk_at bk_cX8_readAsk_39 16 rfl)
theorem dX8_readAsk_56 : decode cX8_readAsk 56 = .ok (.iastore, 1) := dk_79 (blk_at bk_cX8_readAsk_39 17 rfl)
theorem dX8_readAsk_57 : decode cX8_readAsk 57 = .ok (.aload_n 0, 1) := dk_42 (blk_at bk_cX8_readAsk_39 18 rfl)
theorem dX8_readAsk_58 : decode cX8_readAsk 58 = .ok (.invokevirtual 104, 3) := dq_182 bk_cX8_readAsk_39 19 rfl rfl
theorem dX8_readAsk_61 : decode cX8_readAsk 61 = .ok (.ifCond .eq 7, 3) := dq_153 bk_cX8_readAsk_39 22 rfl (by decide)
theorem dX8_readAsk_64 : decode cX8_readAsk 64 = .ok (.aload_n 0, 1) := dk_42 (blk_at bk_cX8_readAsk_39 25 rfl)
theorem dX8_readAsk_65 : decode cX8_readAsk 65 = .ok (.invokevirtual 241, 3) := dq_182 bk_cX8_readAsk_39 26 rfl rfl
theorem dX8_readAsk_68 : decode cX8_readAsk 68 = .ok (.return_, 1) := dk_177 (blk_at bk_cX8_readAsk_39 29 rfl)
theorem bk_cX8_readLine_0 : (cX8_readLine.data.toList.drop 0).take 38 = [42, 18, 187, 182, 0, 147, 153, 0, 10, 42, 182, 0, 244, 167, 0, 60, 42, 18, 189, 182, 0, 147, 153, 0, 10, 42, 182, 0, 247, 167, 0, 44, 42, 18, 191, 182, 0, 147] := by decide +kernel
theorem dX8_readLine_0 : decode cX8_readLine 0 = .ok (.aload_n 0, 1) := dk_42 (blk_at bk_cX8_readLine_0 0 rfl)
theorem dX8_readLine_1 : decode cX8_readLine 1 = .ok (.ldc 187, 2) := dq_18 bk_cX8_readLine_0 1 rfl rfl
theorem dX8_readLine_3 : decode cX8_readLine 3 = .ok (.invokevirtual 147, 3) := dq_182 bk_cX8_readLine_0 3 rfl rfl
theorem dX8_readLine_6 : decode cX8_readLine 6 = .ok (.ifCond .eq 10, 3) := dq_153 bk_cX8_readLine_0 6 rfl (by decide)
theorem dX8_readLine_9 : decode cX8_readLine 9 = .ok (.aload_n 0, 1) := dk_42 (blk_at bk_cX8_readLine_0 9 rfl)
theorem dX8_readLine_10 : decode cX8_readLine 10 = .ok (.invokevirtual 244, 3) := dq_182 bk_cX8_readLine_0 10 rfl rfl
theorem dX8_readLine_13 : decode cX8_readLine 13 = .ok (.goto 60, 3) := dq_167 bk_cX8_readLine_0 13 rfl (by decide)
theorem dX8_readLine_16 : decode cX8_readLine 16 = .ok (.aload_n 0, 1) := dk_42 (blk_at bk_cX8_readLine_0 16 rfl)
theorem dX8_readLine_17 : decode cX8_readLine 17 = .ok (.ldc 189, 2) := dq_18 bk_cX8_readLine_0 17 rfl rfl
theorem dX8_readLine_19 : decode cX8_readLine 19 = .ok (.invokevirtual 147, 3) := dq_182 bk_cX8_readLine_0 19 rfl rfl
theorem dX8_readLine_22 : decode cX8_readLine 22 = .ok (.ifCond .eq 10, 3) := dq_153 bk_cX8_readLine_0 22 rfl (by decide)
theorem dX8_readLine_25 : decode cX8_readLine 25 = .ok (.aload_n 0, 1) := dk_42 (blk_at bk_cX8_readLine_0 25 rfl)
theorem dX8_readLine_26 : decode cX8_readLine 26 = .ok (.invokevirtual 247, 3) := dq_182 bk_cX8_readLine_0 26 rfl rfl
theorem dX8_readLine_29 : decode cX8_readLine 29 = .ok (.goto 44, 3) := dq_167 bk_cX8_readLine_0 29 rfl (by decide)
theorem dX8_readLine_32 : decode cX8_readLine 32 = .ok (.aload_n 0, 1) := dk_42 (blk_at bk_cX8_readLine_0 32 rfl)
theorem dX8_readLine_33 : decode cX8_readLine 33 = .ok (.ldc 191, 2) := dq_18 bk_cX8_readLine_0 33 rfl rfl
theorem dX8_readLine_35 : decode cX8_readLine 35 = .ok (.invokevirtual 147, 3) := dq_182 bk_cX8_readLine_0 35 rfl rfl
theorem bk_cX8_readLine_38 : (cX8_readLine.data.toList.drop 38).take 38 = [153, 0, 10, 42, 182, 0, 250, 167, 0, 28, 42, 18, 193, 182, 0, 147, 153, 0, 10, 42, 182, 0, 253, 167, 0, 12, 42, 4, 42, 180, 0, 116, 182, 0, 157, 42, 16, 59] := by decide +kernel
theorem dX8_readLine_38 : decode cX8_readLine 38 = .ok (.ifCond .eq 10, 3) := dq_153 bk_cX8_readLine_38 0 rfl (by decide)
theorem dX8_readLine_41 : decode cX8_readLine 41 = .ok (.aload_n 0, 1) := dk_42 (blk_at bk_cX8_readLine_38 3 rfl)
theorem dX8_readLine_42 : decode cX8_readLine 42 = .ok (.invokevirtual 250, 3) := dq_182 bk_cX8_readLine_38 4 rfl rfl
theorem dX8_readLine_45 : decode cX8_readLine 45 = .ok (.goto 28, 3) := dq_167 bk_cX8_readLine_38 7 rfl (by decide)
theorem dX8_readLine_48 : decode cX8_readLine 48 = .ok (.aload_n 0, 1) := dk_42 (blk_at bk_cX8_readLine_38 10 rfl)
theorem dX8_readLine_49 : decode cX8_readLine 49 = .ok (.ldc 193, 2) := dq_18 bk_cX8_readLine_38 11 rfl rfl
theorem dX8_readLine_51 : decode cX8_readLine 51 = .ok (.invokevirtual 147, 3) := dq_182 bk_cX8_readLine_38 13 rfl rfl
theorem dX8_readLine_54 : decode cX8_readLine 54 = .ok (.ifCond .eq 10, 3) := dq_153 bk_cX8_readLine_38 16 rfl (by decide)
theorem dX8_readLine_57 : decode cX8_readLine 57 = .ok (.aload_n 0, 1) := dk_42 (blk_at bk_cX8_readLine_38 19 rfl)
theorem dX8_readLine_58 : decode cX8_readLine 58 = .ok (.invokevirtual 253, 3) := dq_182 bk_cX8_readLine_38 20 rfl rfl
theorem dX8_readLine_61 : decode cX8_readLine 61 = .ok (.goto 12, 3) := dq_167 bk_cX8_readLine_38 23 rfl (by decide)
theorem dX8_readLine_64 : decode cX8_readLine 64 = .ok (.aload_n 0, 1) := dk_42 (blk_at bk_cX8_readLine_38 26 rfl)
theorem dX8_readLine_65 : decode cX8_readLine 65 = .ok (.iconst 1, 1) := dk_4 (blk_at bk_cX8_readLine_38 27 rfl)
theorem dX8_readLine_66 : decode cX8_readLine 66 = .ok (.aload_n 0, 1) := dk_42 (blk_at bk_cX8_readLine_38 28 rfl)
theorem dX8_readLine_67 : decode cX8_readLine 67 = .ok (.getfield 116, 3) := dq_180 bk_cX8_readLine_38 29 rfl rfl
theorem dX8_readLine_70 : decode cX8_readLine 70 = .ok (.invokevirtual 157, 3) := dq_182 bk_cX8_readLine_38 32 rfl rfl
theorem dX8_readLine_73 : decode cX8_readLine 73 = .ok (.aload_n 0, 1) := dk_42 (blk_at bk_cX8_readLine_38 35 rfl)
theorem dX8_readLine_74 : decode cX8_readLine 74 = .ok (.bipush 59, 2) := dq_16 bk_cX8_readLine_38 36 rfl (by decide)
theorem bk_cX8_readLine_76 : (cX8_readLine.data.toList.drop 76).take 4 = [182, 0, 227, 177] := by decide +kernel
theorem dX8_readLine_76 : decode cX8_readLine 76 = .ok (.invokevirtual 227, 3) := dq_182 bk_cX8_readLine_76 0 rfl rfl
theorem dX8_readLine_79 : decode cX8_readLine 79 = .ok (.return_, 1) := dk_177 (blk_at bk_cX8_readLine_76 3 rfl)
theorem bk_cX8_readAll_0 : (cX8_readAll.data.toList.drop 0).take 40 = [3, 60, 27, 17, 2, 6, 162, 0, 16, 42, 180, 0, 16, 27, 3, 79, 132, 1, 1, 167, 255, 239, 3, 60, 27, 16, 48, 162, 0, 19, 42, 180, 0, 16, 16, 6, 27, 96, 7, 79] := by decide +kernel
theorem dX8_readAll_0 : decode cX8_readAll 0 = .ok (.iconst 0, 1) := dk_3 (blk_at bk_cX8_readAll_0 0 rfl)
theorem dX8_readAll_1 : decode cX8_readAll 1 = .ok (.istore_n 1, 1) := dk_60 (blk_at bk_cX8_readAll_0 1 rfl)
theorem dX8_readAll_2 : decode cX8_readAll 2 = .ok (.iload_n 1, 1) := dk_27 (blk_at bk_cX8_readAll_0 2 rfl)
theorem dX8_readAll_3 : decode cX8_readAll 3 = .ok (.sipush 518, 3) := dq_17 bk_cX8_readAll_0 3 rfl (by decide)
theorem dX8_readAll_6 : decode cX8_readAll 6 = .ok (.if_icmp .ge 16, 3) := dq_162 bk_cX8_readAll_0 6 rfl (by decide)
theorem dX8_readAll_9 : decode cX8_readAll 9 = .ok (.aload_n 0, 1) := dk_42 (blk_at bk_cX8_readAll_0 9 rfl)
theorem dX8_readAll_10 : decode cX8_readAll 10 = .ok (.getfield 16, 3) := dq_180 bk_cX8_readAll_0 10 rfl rfl
theorem dX8_readAll_13 : decode cX8_readAll 13 = .ok (.iload_n 1, 1) := dk_27 (blk_at bk_cX8_readAll_0 13 rfl)
theorem dX8_readAll_14 : decode cX8_readAll 14 = .ok (.iconst 0, 1) := dk_3 (blk_at bk_cX8_readAll_0 14 rfl)
theorem dX8_readAll_15 : decode cX8_readAll 15 = .ok (.iastore, 1) := dk_79 (blk_at bk_cX8_readAll_0 15 rfl)
theorem dX8_readAll_16 : decode cX8_readAll 16 = .ok (.iinc 1 1, 3) := dq_132 bk_cX8_readAll_0 16 rfl rfl (by decide)
theorem dX8_readAll_19 : decode cX8_readAll 19 = .ok (.goto (-17), 3) := dq_167 bk_cX8_readAll_0 19 rfl (by decide)
theorem dX8_readAll_22 : decode cX8_readAll 22 = .ok (.iconst 0, 1) := dk_3 (blk_at bk_cX8_readAll_0 22 rfl)
theorem dX8_readAll_23 : decode cX8_readAll 23 = .ok (.istore_n 1, 1) := dk_60 (blk_at bk_cX8_readAll_0 23 rfl)
theorem dX8_readAll_24 : decode cX8_readAll 24 = .ok (.iload_n 1, 1) := dk_27 (blk_at bk_cX8_readAll_0 24 rfl)
theorem dX8_readAll_25 : decode cX8_readAll 25 = .ok (.bipush 48, 2) := dq_16 bk_cX8_readAll_0 25 rfl (by decide)
theorem dX8_readAll_27 : decode cX8_readAll 27 = .ok (.if_icmp .ge 19, 3) := dq_162 bk_cX8_readAll_0 27 rfl (by decide)
theorem dX8_readAll_30 : decode cX8_readAll 30 = .ok (.aload_n 0, 1) := dk_42 (blk_at bk_cX8_readAll_0 30 rfl)
theorem dX8_readAll_31 : decode cX8_readAll 31 = .ok (.getfield 16, 3) := dq_180 bk_cX8_readAll_0 31 rfl rfl
theorem dX8_readAll_34 : decode cX8_readAll 34 = .ok (.bipush 6, 2) := dq_16 bk_cX8_readAll_0 34 rfl (by decide)
theorem dX8_readAll_36 : decode cX8_readAll 36 = .ok (.iload_n 1, 1) := dk_27 (blk_at bk_cX8_readAll_0 36 rfl)
theorem dX8_readAll_37 : decode cX8_readAll 37 = .ok (.iadd, 1) := dk_96 (blk_at bk_cX8_readAll_0 37 rfl)
theorem dX8_readAll_38 : decode cX8_readAll 38 = .ok (.iconst 4, 1) := dk_7 (blk_at bk_cX8_readAll_0 38 rfl)
theorem dX8_readAll_39 : decode cX8_readAll 39 = .ok (.iastore, 1) := dk_79 (blk_at bk_cX8_readAll_0 39 rfl)
theorem bk_cX8_readAll_40 : (cX8_readAll.data.toList.drop 40).take 40 = [132, 1, 1, 167, 255, 237, 42, 3, 181, 0, 215, 42, 3, 181, 0, 207, 42, 182, 0, 151, 42, 18, 185, 182, 0, 211, 42, 180, 0, 16, 3, 42, 8, 16, 30, 182, 0, 218, 79, 42] := by decide +kernel
theorem dX8_readAll_40 : decode cX8_readAll 40 = .ok (.iinc 1 1, 3) := dq_132 bk_cX8_readAll_40 0 rfl rfl (by decide)
theorem dX8_readAll_43 : decode cX8_readAll 43 = .ok (.goto (-19), 3) := dq_167 bk_cX8_readAll_40 3 rfl (by decide)
theorem dX8_readAll_46 : decode cX8_readAll 46 = .ok (.aload_n 0, 1) := dk_42 (blk_at bk_cX8_readAll_40 6 rfl)
theorem dX8_readAll_47 : decode cX8_readAll 47 = .ok (.iconst 0, 1) := dk_3 (blk_at bk_cX8_readAll_40 7 rfl)
theorem dX8_readAll_48 : decode cX8_readAll 48 = .ok (.putfield 215, 3) := dq_181 bk_cX8_readAll_40 8 rfl rfl
theorem dX8_readAll_51 : decode cX8_readAll 51 = .ok (.aload_n 0, 1) := dk_42 (blk_at bk_cX8_readAll_40 11 rfl)
theorem dX8_readAll_52 : decode cX8_readAll 52 = .ok (.iconst 0, 1) := dk_3 (blk_at bk_cX8_readAll_40 12 rfl)
theorem dX8_readAll_53 : decode cX8_readAll 53 = .ok (.putfield 207, 3) := dq_181 bk_cX8_readAll_40 13 rfl rfl
theorem dX8_readAll_56 : decode cX8_readAll 56 = .ok (.aload_n 0, 1) := dk_42 (blk_at bk_cX8_readAll_40 16 rfl)
theorem dX8_readAll_57 : decode cX8_readAll 57 = .ok (.invokevirtual 151, 3) := dq_182 bk_cX8_readAll_40 17 rfl rfl
theorem dX8_readAll_60 : decode cX8_readAll 60 = .ok (.aload_n 0, 1) := dk_42 (blk_at bk_cX8_readAll_40 20 rfl)
theorem dX8_readAll_61 : decode cX8_readAll 61 = .ok (.ldc 185, 2) := dq_18 bk_cX8_readAll_40 21 rfl rfl
theorem dX8_readAll_63 : decode cX8_readAll 63 = .ok (.invokevirtual 211, 3) := dq_182 bk_cX8_readAll_40 23 rfl rfl
theorem dX8_readAll_66 : decode cX8_readAll 66 = .ok (.aload_n 0, 1) := dk_42 (blk_at bk_cX8_readAll_40 26 rfl)
theorem dX8_readAll_67 : decode cX8_readAll 67 = .ok (.getfield 16, 3) := dq_180 bk_cX8_readAll_40 27 rfl rfl
theorem dX8_readAll_70 : decode cX8_readAll 70 = .ok (.iconst 0, 1) := dk_3 (blk_at bk_cX8_readAll_40 30 rfl)
theorem dX8_readAll_71 : decode cX8_readAll 71 = .ok (.aload_n 0, 1) := dk_42 (blk_at bk_cX8_readAll_40 31 rfl)
theorem dX8_readAll_72 : decode cX8_readAll 72 = .ok (.iconst 5, 1) := dk_8 (blk_at bk_cX8_readAll_40 32 rfl)
theorem dX8_readAll_73 : decode cX8_readAll 73 = .ok (.bipush 30, 2) := dq_16 bk_cX8_readAll_40 33 rfl (by decide)
theorem dX8_readAll_75 : decode cX8_readAll 75 = .ok (.invokevirtual 218, 3) := dq_182 bk_cX8_readAll_40 35 rfl rfl
theorem dX8_readAll_78 : decode cX8_readAll 78 = .ok (.iastore, 1) := dk_79 (blk_at bk_cX8_readAll_40 38 rfl)
theorem dX8_readAll_79 : decode cX8_readAll 79 = .ok (.aload_n 0, 1) := dk_42 (blk_at bk_cX8_readAll_40 39 rfl)
theorem bk_cX8_readAll_80 : (cX8_readAll.data.toList.drop 80).take 33 = [16, 59, 182, 0, 227, 4, 60, 42, 182, 0, 104, 153, 0, 20, 42, 180, 0, 119, 153, 0, 13, 42, 182, 1, 0, 132, 1, 1, 167, 255, 235, 27, 172] := by decide +kernel
theorem dX8_readAll_80 : decode cX8_readAll 80 = .ok (.bipush 59, 2) := dq_16 bk_cX8_readAll_80 0 rfl (by decide)
theorem dX8_readAll_82 : decode cX8_readAll 82 = .ok (.invokevirtual 227, 3) := dq_182 bk_cX8_readAll_80 2 rfl rfl
theorem dX8_readAll_85 : decode cX8_readAll 85 = .ok (.iconst 1, 1) := dk_4 (blk_at bk_cX8_readAll_80 5 rfl)
theorem dX8_readAll_86 : decode cX8_readAll 86 = .ok (.istore_n 1, 1) := dk_60 (blk_at bk_cX8_readAll_80 6 rfl)
theorem dX8_readAll_87 : decode cX8_readAll 87 = .ok (.aload_n 0, 1) := dk_42 (blk_at bk_cX8_readAll_80 7 rfl)
theorem dX8_readAll_88 : decode cX8_readAll 88 = .ok (.invokevirtual 104, 3) := dq_182 bk_cX8_readAll_80 8 rfl rfl
theorem dX8_readAll_91 : decode cX8_readAll 91 = .ok (.ifCond .eq 20, 3) := dq_153 bk_cX8_readAll_80 11 rfl (by decide)
theorem dX8_readAll_94 : decode cX8_readAll 94 = .ok (.aload_n 0, 1) := dk_42 (blk_at bk_cX8_readAll_80 14 rfl)
theorem dX8_readAll_95 : decode cX8_readAll 95 = .ok (.getfield 119, 3) := dq_180 bk_cX8_readAll_80 15 rfl rfl
theorem dX8_readAll_98 : decode cX8_readAll 98 = .ok (.ifCond .eq 13, 3) := dq_153 bk_cX8_readAll_80 18 rfl (by decide)
theorem dX8_readAll_101 : decode cX8_readAll 101 = .ok (.aload_n 0, 1) := dk_42 (blk_at bk_cX8_readAll_80 21 rfl)
theorem dX8_readAll_102 : decode cX8_readAll 102 = .ok (.invokevirtual 256, 3) := dq_182 bk_cX8_readAll_80 22 rfl rfl
theorem dX8_readAll_105 : decode cX8_readAll 105 = .ok (.iinc 1 1, 3) := dq_132 bk_cX8_readAll_80 25 rfl rfl (by decide)
theorem dX8_readAll_108 : decode cX8_readAll 108 = .ok (.goto (-21), 3) := dq_167 bk_cX8_readAll_80 28 rfl (by decide)
theorem dX8_readAll_111 : decode cX8_readAll 111 = .ok (.iload_n 1, 1) := dk_27 (blk_at bk_cX8_readAll_80 31 rfl)
theorem dX8_readAll_112 : decode cX8_readAll 112 = .ok (.ireturn, 1) := dk_172 (blk_at bk_cX8_readAll_80 32 rfl)
theorem bk_cX8_text_0 : (cX8_text.data.toList.drop 0).take 40 = [42, 42, 180, 0, 94, 181, 0, 107, 42, 3, 181, 0, 94, 42, 3, 181, 0, 110, 42, 3, 181, 0, 101, 42, 2, 181, 0, 23, 42, 42, 180, 0, 13, 181, 0, 16, 42, 182, 1, 3] := by decide +kernel
theorem dX8_text_0 : decode cX8_text 0 = .ok (.aload_n 0, 1) := dk_42 (blk_at bk_cX8_text_0 0 rfl)
theorem dX8_text_1 : decode cX8_text 1 = .ok (.aload_n 0, 1) := dk_42 (blk_at bk_cX8_text_0 1 rfl)
theorem dX8_text_2 : decode cX8_text 2 = .ok (.getfield 94, 3) := dq_180 bk_cX8_text_0 2 rfl rfl
theorem dX8_text_5 : decode cX8_text 5 = .ok (.putfield 107, 3) := dq_181 bk_cX8_text_0 5 rfl rfl
theorem dX8_text_8 : decode cX8_text 8 = .ok (.aload_n 0, 1) := dk_42 (blk_at bk_cX8_text_0 8 rfl)
theorem dX8_text_9 : decode cX8_text 9 = .ok (.iconst 0, 1) := dk_3 (blk_at bk_cX8_text_0 9 rfl)
theorem dX8_text_10 : decode cX8_text 10 = .ok (.putfield 94, 3) := dq_181 bk_cX8_text_0 10 rfl rfl
theorem dX8_text_13 : decode cX8_text 13 = .ok (.aload_n 0, 1) := dk_42 (blk_at bk_cX8_text_0 13 rfl)
theorem dX8_text_14 : decode cX8_text 14 = .ok (.iconst 0, 1) := dk_3 (blk_at bk_cX8_text_0 14 rfl)
theorem dX8_text_15 : decode cX8_text 15 = .ok (.putfield 110, 3) := dq_181 bk_cX8_text_0 15 rfl rfl
theorem dX8_text_18 : decode cX8_text 18 = .ok (.aload_n 0, 1) := dk_42 (blk_at bk_cX8_text_0 18 rfl)
theorem dX8_text_19 : decode cX8_text 19 = .ok (.iconst 0, 1) := dk_3 (blk_at bk_cX8_text_0 19 rfl)
theorem dX8_text_20 : decode cX8_text 20 = .ok (.putfield 101, 3) := dq_181 bk_cX8_text_0 20 rfl rfl
theorem dX8_text_23 : decode cX8_text 23 = .ok (.aload_n 0, 1) := dk_42 (blk_at bk_cX8_text_0 23 rfl)
theorem dX8_text_24 : decode cX8_text 24 = .ok (.iconst (-1), 1) := dk_2 (blk_at bk_cX8_text_0 24 rfl)
theorem dX8_text_25 : decode cX8_text 25 = .ok (.putfield 23, 3) := dq_181 bk_cX8_text_0 25 rfl rfl
theorem dX8_text_28 : decode cX8_text 28 = .ok (.aload_n 0, 1) := dk_42 (blk_at bk_cX8_text_0 28 rfl)
theorem dX8_text_29 : decode cX8_text 29 = .ok (.aload_n 0, 1) := dk_42 (blk_at bk_cX8_text_0 29 rfl)
theorem dX8_text_30 : decode cX8_text 30 = .ok (.getfield 13, 3) := dq_180 bk_cX8_text_0 30 rfl rfl
theorem dX8_text_33 : decode cX8_text 33 = .ok (.putfield 16, 3) := dq_181 bk_cX8_text_0 33 rfl rfl
theorem dX8_text_36 : decode cX8_text 36 = .ok (.aload_n 0, 1) := dk_42 (blk_at bk_cX8_text_0 36 rfl)
theorem dX8_text_37 : decode cX8_text 37 = .ok (.invokevirtual 259, 3) := dq_182 bk_cX8_text_0 37 rfl rfl
theorem bk_cX8_text_40 : (cX8_text.data.toList.drop 40).take 40 = [60, 42, 42, 180, 0, 9, 181, 0, 16, 42, 182, 0, 104, 154, 0, 6, 16, 252, 172, 3, 61, 28, 17, 2, 6, 162, 0, 21, 42, 180, 0, 9, 28, 42, 180, 0, 13, 28, 46, 79] := by decide +kernel
theorem dX8_text_40 : decode cX8_text 40 = .ok (.istore_n 1, 1) := dk_60 (blk_at bk_cX8_text_40 0 rfl)
theorem dX8_text_41 : decode cX8_text 41 = .ok (.aload_n 0, 1) := dk_42 (blk_at bk_cX8_text_40 1 rfl)
theorem dX8_text_42 : decode cX8_text 42 = .ok (.aload_n 0, 1) := dk_42 (blk_at bk_cX8_text_40 2 rfl)
theorem dX8_text_43 : decode cX8_text 43 = .ok (.getfield 9, 3) := dq_180 bk_cX8_text_40 3 rfl rfl
theorem dX8_text_46 : decode cX8_text 46 = .ok (.putfield 16, 3) := dq_181 bk_cX8_text_40 6 rfl rfl
theorem dX8_text_49 : decode cX8_text 49 = .ok (.aload_n 0, 1) := dk_42 (blk_at bk_cX8_text_40 9 rfl)
theorem dX8_text_50 : decode cX8_text 50 = .ok (.invokevirtual 104, 3) := dq_182 bk_cX8_text_40 10 rfl rfl
theorem dX8_text_53 : decode cX8_text 53 = .ok (.ifCond .ne 6, 3) := dq_154 bk_cX8_text_40 13 rfl (by decide)
theorem dX8_text_56 : decode cX8_text 56 = .ok (.bipush (-4), 2) := dq_16 bk_cX8_text_40 16 rfl (by decide)
theorem dX8_text_58 : decode cX8_text 58 = .ok (.ireturn, 1) := dk_172 (blk_at bk_cX8_text_40 18 rfl)
theorem dX8_text_59 : decode cX8_text 59 = .ok (.iconst 0, 1) := dk_3 (blk_at bk_cX8_text_40 19 rfl)
theorem dX8_text_60 : decode cX8_text 60 = .ok (.istore_n 2, 1) := dk_61 (blk_at bk_cX8_text_40 20 rfl)
theorem dX8_text_61 : decode cX8_text 61 = .ok (.iload_n 2, 1) := dk_28 (blk_at bk_cX8_text_40 21 rfl)
theorem dX8_text_62 : decode cX8_text 62 = .ok (.sipush 518, 3) := dq_17 bk_cX8_text_40 22 rfl (by decide)
theorem dX8_text_65 : decode cX8_text 65 = .ok (.if_icmp .ge 21, 3) := dq_162 bk_cX8_text_40 25 rfl (by decide)
theorem dX8_text_68 : decode cX8_text 68 = .ok (.aload_n 0, 1) := dk_42 (blk_at bk_cX8_text_40 28 rfl)
theorem dX8_text_69 : decode cX8_text 69 = .ok (.getfield 9, 3) := dq_180 bk_cX8_text_40 29 rfl rfl
theorem dX8_text_72 : decode cX8_text 72 = .ok (.iload_n 2, 1) := dk_28 (blk_at bk_cX8_text_40 32 rfl)
theorem dX8_text_73 : decode cX8_text 73 = .ok (.aload_n 0, 1) := dk_42 (blk_at bk_cX8_text_40 33 rfl)
theorem dX8_text_74 : decode cX8_text 74 = .ok (.getfield 13, 3) := dq_180 bk_cX8_text_40 34 rfl rfl
theorem dX8_text_77 : decode cX8_text 77 = .ok (.iload_n 2, 1) := dk_28 (blk_at bk_cX8_text_40 37 rfl)
theorem dX8_text_78 : decode cX8_text 78 = .ok (.iaload, 1) := dk_46 (blk_at bk_cX8_text_40 38 rfl)
theorem dX8_text_79 : decode cX8_text 79 = .ok (.iastore, 1) := dk_79 (blk_at bk_cX8_text_40 39 rfl)
theorem bk_cX8_text_80 : (cX8_text.data.toList.drop 80).take 13 = [132, 2, 1, 167, 255, 234, 42, 3, 181, 1, 6, 27, 172] := by decide +kernel
theorem dX8_text_80 : decode cX8_text 80 = .ok (.iinc 2 1, 3) := dq_132 bk_cX8_text_80 0 rfl rfl (by decide)
theorem dX8_text_83 : decode cX8_text 83 = .ok (.goto (-22), 3) := dq_167 bk_cX8_text_80 3 rfl (by decide)
theorem dX8_text_86 : decode cX8_text 86 = .ok (.aload_n 0, 1) := dk_42 (blk_at bk_cX8_text_80 6 rfl)
theorem dX8_text_87 : decode cX8_text 87 = .ok (.iconst 0, 1) := dk_3 (blk_at bk_cX8_text_80 7 rfl)
theorem dX8_text_88 : decode cX8_text 88 = .ok (.putfield 262, 3) := dq_181 bk_cX8_text_80 8 rfl rfl
theorem dX8_text_91 : decode cX8_text 91 = .ok (.iload_n 1, 1) := dk_27 (blk_at bk_cX8_text_80 11 rfl)
theorem dX8_text_92 : decode cX8_text 92 = .ok (.ireturn, 1) := dk_172 (blk_at bk_cX8_text_80 12 rfl)
theorem bk_cX8_fault_0 : (cX8_fault.data.toList.drop 0).take 25 = [27, 154, 0, 10, 42, 180, 0, 101, 167, 0, 16, 27, 4, 160, 0, 10, 42, 180, 0, 23, 167, 0, 4, 2, 172] := by decide +kernel
theorem dX8_fault_0 : decode cX8_fault 0 = .ok (.iload_n 1, 1) := dk_27 (blk_at bk_cX8_fault_0 0 rfl)
theorem dX8_fault_1 : decode cX8_fault 1 = .ok (.ifCond .ne 10, 3) := dq_154 bk_cX8_fault_0 1 rfl (by decide)
theorem dX8_fault_4 : decode cX8_fault 4 = .ok (.aload_n 0, 1) := dk_42 (blk_at bk_cX8_fault_0 4 rfl)
theorem dX8_fault_5 : decode cX8_fault 5 = .ok (.getfield 101, 3) := dq_180 bk_cX8_fault_0 5 rfl rfl
theorem dX8_fault_8 : decode cX8_fault 8 = .ok (.goto 16, 3) := dq_167 bk_cX8_fault_0 8 rfl (by decide)
theorem dX8_fault_11 : decode cX8_fault 11 = .ok (.iload_n 1, 1) := dk_27 (blk_at bk_cX8_fault_0 11 rfl)
theorem dX8_fault_12 : decode cX8_fault 12 = .ok (.iconst 1, 1) := dk_4 (blk_at bk_cX8_fault_0 12 rfl)
theorem dX8_fault_13 : decode cX8_fault 13 = .ok (.if_icmp .ne 10, 3) := dq_160 bk_cX8_fault_0 13 rfl (by decide)
theorem dX8_fault_16 : decode cX8_fault 16 = .ok (.aload_n 0, 1) := dk_42 (blk_at bk_cX8_fault_0 16 rfl)
theorem dX8_fault_17 : decode cX8_fault 17 = .ok (.getfield 23, 3) := dq_180 bk_cX8_fault_0 17 rfl rfl
theorem dX8_fault_20 : decode cX8_fault 20 = .ok (.goto 4, 3) := dq_167 bk_cX8_fault_0 20 rfl (by decide)
theorem dX8_fault_23 : decode cX8_fault 23 = .ok (.iconst (-1), 1) := dk_2 (blk_at bk_cX8_fault_0 23 rfl)
theorem dX8_fault_24 : decode cX8_fault 24 = .ok (.ireturn, 1) := dk_172 (blk_at bk_cX8_fault_0 24 rfl)
theorem dX8_count_1 : decode cX8_count 1 = .ok (.tableswitch 99 0 7 #[47, 54, 61, 68, 75, 82, 89, 94], 47) := by decide +kernel
theorem bk_cX8_count_0 : (cX8_count.data.toList.drop 0).take 1 = [27] := by decide +kernel
theorem dX8_count_0 : decode cX8_count 0 = .ok (.iload_n 1, 1) := dk_27 (blk_at bk_cX8_count_0 0 rfl)
theorem bk_cX8_count_48 : (cX8_count.data.toList.drop 48).take 40 = [42, 180, 0, 9, 3, 46, 172, 42, 180, 0, 9, 4, 46, 172, 42, 180, 0, 9, 5, 46, 172, 42, 180, 0, 9, 6, 46, 172, 42, 180, 0, 9, 7, 46, 172, 42, 180, 0, 9, 8] := by decide +kernel
theorem dX8_count_48 : decode cX8_count 48 = .ok (.aload_n 0, 1) := dk_42 (blk_at bk_cX8_count_48 0 rfl)
theorem dX8_count_49 : decode cX8_count 49 = .ok (.getfield 9, 3) := dq_180 bk_cX8_count_48 1 rfl rfl
theorem dX8_count_52 : decode cX8_count 52 = .ok (.iconst 0, 1) := dk_3 (blk_at bk_cX8_count_48 4 rfl)
theorem dX8_count_53 : decode cX8_count 53 = .ok (.iaload, 1) := dk_46 (blk_at bk_cX8_count_48 5 rfl)
theorem dX8_count_54 : decode cX8_count 54 = .ok (.ireturn, 1) := dk_172 (blk_at bk_cX8_count_48 6 rfl)
theorem dX8_count_55 : decode cX8_count 55 = .ok (.aload_n 0, 1) := dk_42 (blk_at bk_cX8_count_48 7 rfl)
theorem dX8_count_56 : decode cX8_count 56 = .ok (.getfield 9, 3) := dq_180 bk_cX8_count_48 8 rfl rfl
theorem dX8_count_59 : decode cX8_count 59 = .ok (.iconst 1, 1) := dk_4 (blk_at bk_cX8_count_48 11 rfl)
theorem dX8_count_60 : decode cX8_count 60 = .ok (.iaload, 1) := dk_46 (blk_at bk_cX8_count_48 12 rfl)
theorem dX8_count_61 : decode cX8_count 61 = .ok (.ireturn, 1) := dk_172 (blk_at bk_cX8_count_48 13 rfl)
theorem dX8_count_62 : decode cX8_count 62 = .ok (.aload_n 0, 1) := dk_42 (blk_at bk_cX8_count_48 14 rfl)
theorem dX8_count_63 : decode cX8_count 63 = .ok (.getfield 9, 3) := dq_180 bk_cX8_count_48 15 rfl rfl
theorem dX8_count_66 : decode cX8_count 66 = .ok (.iconst 2, 1) := dk_5 (blk_at bk_cX8_count_48 18 rfl)
theorem dX8_count_67 : decode cX8_count 67 = .ok (.iaload, 1) := dk_46 (blk_at bk_cX8_count_48 19 rfl)
theorem dX8_count_68 : decode cX8_count 68 = .ok (.ireturn, 1) := dk_172 (blk_at bk_cX8_count_48 20 rfl)
theorem dX8_count_69 : decode cX8_count 69 = .ok (.aload_n 0, 1) := dk_42 (blk_at bk_cX8_count_48 21 rfl)
theorem dX8_count_70 : decode cX8_count 70 = .ok (.getfield 9, 3) := dq_180 bk_cX8_count_48 22 rfl rfl
theorem dX8_count_73 : decode cX8_count 73 = .ok (.iconst 3, 1) := dk_6 (blk_at bk_cX8_count_48 25 rfl)
theorem dX8_count_74 : decode cX8_count 74 = .ok (.iaload, 1) := dk_46 (blk_at bk_cX8_count_48 26 rfl)
theorem dX8_count_75 : decode cX8_count 75 = .ok (.ireturn, 1) := dk_172 (blk_at bk_cX8_count_48 27 rfl)
theorem dX8_count_76 : decode cX8_count 76 = .ok (.aload_n 0, 1) := dk_42 (blk_at bk_cX8_count_48 28 rfl)
theorem dX8_count_77 : decode cX8_count 77 = .ok (.getfield 9, 3) := dq_180 bk_cX8_count_48 29 rfl rfl
theorem dX8_count_80 : decode cX8_count 80 = .ok (.iconst 4, 1) := dk_7 (blk_at bk_cX8_count_48 32 rfl)
theorem dX8_count_81 : decode cX8_count 81 = .ok (.iaload, 1) := dk_46 (blk_at bk_cX8_count_48 33 rfl)
theorem dX8_count_82 : decode cX8_count 82 = .ok (.ireturn, 1) := dk_172 (blk_at bk_cX8_count_48 34 rfl)
theorem dX8_count_83 : decode cX8_count 83 = .ok (.aload_n 0, 1) := dk_42 (blk_at bk_cX8_count_48 35 rfl)
theorem dX8_count_84 : decode cX8_count 84 = .ok (.getfield 9, 3) := dq_180 bk_cX8_count_48 36 rfl rfl
theorem dX8_count_87 : decode cX8_count 87 = .ok (.iconst 5, 1) := dk_8 (blk_at bk_cX8_count_48 39 rfl)
theorem bk_cX8_count_88 : (cX8_count.data.toList.drop 88).take 14 = [46, 172, 42, 180, 1, 6, 172, 42, 180, 0, 94, 172, 2, 172] := by decide +kernel
theorem dX8_count_88 : decode cX8_count 88 = .ok (.iaload, 1) := dk_46 (blk_at bk_cX8_count_88 0 rfl)
theorem dX8_count_89 : decode cX8_count 89 = .ok (.ireturn, 1) := dk_172 (blk_at bk_cX8_count_88 1 rfl)
theorem dX8_count_90 : decode cX8_count 90 = .ok (.aload_n 0, 1) := dk_42 (blk_at bk_cX8_count_88 2 rfl)
theorem dX8_count_91 : decode cX8_count 91 = .ok (.getfield 262, 3) := dq_180 bk_cX8_count_88 3 rfl rfl
theorem dX8_count_94 : decode cX8_count 94 = .ok (.ireturn, 1) := dk_172 (blk_at bk_cX8_count_88 6 rfl)
theorem dX8_count_95 : decode cX8_count 95 = .ok (.aload_n 0, 1) := dk_42 (blk_at bk_cX8_count_88 7 rfl)
theorem dX8_count_96 : decode cX8_count 96 = .ok (.getfield 94, 3) := dq_180 bk_cX8_count_88 8 rfl rfl
theorem dX8_count_99 : decode cX8_count 99 = .ok (.ireturn, 1) := dk_172 (blk_at bk_cX8_count_88 11 rfl)
theorem dX8_count_100 : decode cX8_count 100 = .ok (.iconst (-1), 1) := dk_2 (blk_at bk_cX8_count_88 12 rfl)
theorem dX8_count_101 : decode cX8_count 101 = .ok (.ireturn, 1) := dk_172 (blk_at bk_cX8_count_88 13 rfl)
theorem bk_cX8_letterOf_0 : (cX8_letterOf.data.toList.drop 0).take 25 = [26, 61, 27, 62, 29, 8, 162, 0, 14, 28, 16, 27, 108, 61, 132, 3, 1, 167, 255, 243, 28, 16, 27, 112, 172] := by decide +kernel
theorem dX8_letterOf_0 : decode cX8_letterOf 0 = .ok (.iload_n 0, 1) := dk_26 (blk_at bk_cX8_letterOf_0 0 rfl)
theorem dX8_letterOf_1 : decode cX8_letterOf 1 = .ok (.istore_n 2, 1) := dk_61 (blk_at bk_cX8_letterOf_0 1 rfl)
theorem dX8_letterOf_2 : decode cX8_letterOf 2 = .ok (.iload_n 1, 1) := dk_27 (blk_at bk_cX8_letterOf_0 2 rfl)
theorem dX8_letterOf_3 : decode cX8_letterOf 3 = .ok (.istore_n 3, 1) := dk_62 (blk_at bk_cX8_letterOf_0 3 rfl)
theorem dX8_letterOf_4 : decode cX8_letterOf 4 = .ok (.iload_n 3, 1) := dk_29 (blk_at bk_cX8_letterOf_0 4 rfl)
theorem dX8_letterOf_5 : decode cX8_letterOf 5 = .ok (.iconst 5, 1) := dk_8 (blk_at bk_cX8_letterOf_0 5 rfl)
theorem dX8_letterOf_6 : decode cX8_letterOf 6 = .ok (.if_icmp .ge 14, 3) := dq_162 bk_cX8_letterOf_0 6 rfl (by decide)
theorem dX8_letterOf_9 : decode cX8_letterOf 9 = .ok (.iload_n 2, 1) := dk_28 (blk_at bk_cX8_letterOf_0 9 rfl)
theorem dX8_letterOf_10 : decode cX8_letterOf 10 = .ok (.bipush 27, 2) := dq_16 bk_cX8_letterOf_0 10 rfl (by decide)
theorem dX8_letterOf_12 : decode cX8_letterOf 12 = .ok (.idiv, 1) := dk_108 (blk_at bk_cX8_letterOf_0 12 rfl)
theorem dX8_letterOf_13 : decode cX8_letterOf 13 = .ok (.istore_n 2, 1) := dk_61 (blk_at bk_cX8_letterOf_0 13 rfl)
theorem dX8_letterOf_14 : decode cX8_letterOf 14 = .ok (.iinc 3 1, 3) := dq_132 bk_cX8_letterOf_0 14 rfl rfl (by decide)
theorem dX8_letterOf_17 : decode cX8_letterOf 17 = .ok (.goto (-13), 3) := dq_167 bk_cX8_letterOf_0 17 rfl (by decide)
theorem dX8_letterOf_20 : decode cX8_letterOf 20 = .ok (.iload_n 2, 1) := dk_28 (blk_at bk_cX8_letterOf_0 20 rfl)
theorem dX8_letterOf_21 : decode cX8_letterOf 21 = .ok (.bipush 27, 2) := dq_16 bk_cX8_letterOf_0 21 rfl (by decide)
theorem dX8_letterOf_23 : decode cX8_letterOf 23 = .ok (.irem, 1) := dk_112 (blk_at bk_cX8_letterOf_0 23 rfl)
theorem dX8_letterOf_24 : decode cX8_letterOf 24 = .ok (.ireturn, 1) := dk_172 (blk_at bk_cX8_letterOf_0 24 rfl)
theorem bk_cX8_letter_0 : (cX8_letter.data.toList.drop 0).take 39 = [42, 27, 182, 1, 9, 153, 0, 31, 28, 133, 9, 20, 1, 12, 184, 0, 45, 153, 0, 19, 42, 180, 0, 9, 16, 54, 27, 96, 46, 28, 184, 1, 14, 167, 0, 5, 16, 254, 172] := by decide +kernel
theorem dX8_letter_0 : decode cX8_letter 0 = .ok (.aload_n 0, 1) := dk_42 (blk_at bk_cX8_letter_0 0 rfl)
theorem dX8_letter_1 : decode cX8_letter 1 = .ok (.iload_n 1, 1) := dk_27 (blk_at bk_cX8_letter_0 1 rfl)
theorem dX8_letter_2 : decode cX8_letter 2 = .ok (.invokevirtual 265, 3) := dq_182 bk_cX8_letter_0 2 rfl rfl
theorem dX8_letter_5 : decode cX8_letter 5 = .ok (.ifCond .eq 31, 3) := dq_153 bk_cX8_letter_0 5 rfl (by decide)
theorem dX8_letter_8 : decode cX8_letter 8 = .ok (.iload_n 2, 1) := dk_28 (blk_at bk_cX8_letter_0 8 rfl)
theorem dX8_letter_9 : decode cX8_letter 9 = .ok (.i2l, 1) := dk_133 (blk_at bk_cX8_letter_0 9 rfl)
theorem dX8_letter_10 : decode cX8_letter 10 = .ok (.lconst 0, 1) := dk_9 (blk_at bk_cX8_letter_0 10 rfl)
theorem dX8_letter_11 : decode cX8_letter 11 = .ok (.ldc2_w 268, 3) := dq_20 bk_cX8_letter_0 11 rfl rfl
theorem dX8_letter_14 : decode cX8_letter 14 = .ok (.invokestatic 45, 3) := dq_184 bk_cX8_letter_0 14 rfl rfl
theorem dX8_letter_17 : decode cX8_letter 17 = .ok (.ifCond .eq 19, 3) := dq_153 bk_cX8_letter_0 17 rfl (by decide)
theorem dX8_letter_20 : decode cX8_letter 20 = .ok (.aload_n 0, 1) := dk_42 (blk_at bk_cX8_letter_0 20 rfl)
theorem dX8_letter_21 : decode cX8_letter 21 = .ok (.getfield 9, 3) := dq_180 bk_cX8_letter_0 21 rfl rfl
theorem dX8_letter_24 : decode cX8_letter 24 = .ok (.bipush 54, 2) := dq_16 bk_cX8_letter_0 24 rfl (by decide)
theorem dX8_letter_26 : decode cX8_letter 26 = .ok (.iload_n 1, 1) := dk_27 (blk_at bk_cX8_letter_0 26 rfl)
theorem dX8_letter_27 : decode cX8_letter 27 = .ok (.iadd, 1) := dk_96 (blk_at bk_cX8_letter_0 27 rfl)
theorem dX8_letter_28 : decode cX8_letter 28 = .ok (.iaload, 1) := dk_46 (blk_at bk_cX8_letter_0 28 rfl)
theorem dX8_letter_29 : decode cX8_letter 29 = .ok (.iload_n 2, 1) := dk_28 (blk_at bk_cX8_letter_0 29 rfl)
theorem dX8_letter_30 : decode cX8_letter 30 = .ok (.invokestatic 270, 3) := dq_184 bk_cX8_letter_0 30 rfl rfl
theorem dX8_letter_33 : decode cX8_letter 33 = .ok (.goto 5, 3) := dq_167 bk_cX8_letter_0 33 rfl (by decide)
theorem dX8_letter_36 : decode cX8_letter 36 = .ok (.bipush (-2), 2) := dq_16 bk_cX8_letter_0 36 rfl (by decide)
theorem dX8_letter_38 : decode cX8_letter 38 = .ok (.ireturn, 1) := dk_172 (blk_at bk_cX8_letter_0 38 rfl)
theorem bk_cX8_find_0 : (cX8_find.data.toList.drop 0).take 39 = [42, 180, 0, 94, 60, 42, 3, 181, 0, 94, 42, 182, 0, 49, 153, 0, 19, 27, 133, 10, 20, 0, 53, 184, 0, 45, 153, 0, 7, 4, 167, 0, 4, 3, 61, 3, 62, 29, 27] := by decide +kernel
theorem dX8_find_0 : decode cX8_find 0 = .ok (.aload_n 0, 1) := dk_42 (blk_at bk_cX8_find_0 0 rfl)
theorem dX8_find_1 : decode cX8_find 1 = .ok (.getfield 94, 3) := dq_180 bk_cX8_find_0 1 rfl rfl
theorem dX8_find_4 : decode cX8_find 4 = .ok (.istore_n 1, 1) := dk_60 (blk_at bk_cX8_find_0 4 rfl)
theorem dX8_find_5 : decode cX8_find 5 = .ok (.aload_n 0, 1) := dk_42 (blk_at bk_cX8_find_0 5 rfl)
theorem dX8_find_6 : decode cX8_find 6 = .ok (.iconst 0, 1) := dk_3 (blk_at bk_cX8_find_0 6 rfl)
theorem dX8_find_7 : decode cX8_find 7 = .ok (.putfield 94, 3) := dq_181 bk_cX8_find_0 7 rfl rfl
theorem dX8_find_10 : decode cX8_find 10 = .ok (.aload_n 0, 1) := dk_42 (blk_at bk_cX8_find_0 10 rfl)
theorem dX8_find_11 : decode cX8_find 11 = .ok (.invokevirtual 49, 3) := dq_182 bk_cX8_find_0 11 rfl rfl
theorem dX8_find_14 : decode cX8_find 14 = .ok (.ifCond .eq 19, 3) := dq_153 bk_cX8_find_0 14 rfl (by decide)
theorem dX8_find_17 : decode cX8_find 17 = .ok (.iload_n 1, 1) := dk_27 (blk_at bk_cX8_find_0 17 rfl)
theorem dX8_find_18 : decode cX8_find 18 = .ok (.i2l, 1) := dk_133 (blk_at bk_cX8_find_0 18 rfl)
theorem dX8_find_19 : decode cX8_find 19 = .ok (.lconst 1, 1) := dk_10 (blk_at bk_cX8_find_0 19 rfl)
theorem dX8_find_20 : decode cX8_find 20 = .ok (.ldc2_w 53, 3) := dq_20 bk_cX8_find_0 20 rfl rfl
theorem dX8_find_23 : decode cX8_find 23 = .ok (.invokestatic 45, 3) := dq_184 bk_cX8_find_0 23 rfl rfl
theorem dX8_find_26 : decode cX8_find 26 = .ok (.ifCond .eq 7, 3) := dq_153 bk_cX8_find_0 26 rfl (by decide)
theorem dX8_find_29 : decode cX8_find 29 = .ok (.iconst 1, 1) := dk_4 (blk_at bk_cX8_find_0 29 rfl)
theorem dX8_find_30 : decode cX8_find 30 = .ok (.goto 4, 3) := dq_167 bk_cX8_find_0 30 rfl (by decide)
theorem dX8_find_33 : decode cX8_find 33 = .ok (.iconst 0, 1) := dk_3 (blk_at bk_cX8_find_0 33 rfl)
theorem dX8_find_34 : decode cX8_find 34 = .ok (.istore_n 2, 1) := dk_61 (blk_at bk_cX8_find_0 34 rfl)
theorem dX8_find_35 : decode cX8_find 35 = .ok (.iconst 0, 1) := dk_3 (blk_at bk_cX8_find_0 35 rfl)
theorem dX8_find_36 : decode cX8_find 36 = .ok (.istore_n 3, 1) := dk_62 (blk_at bk_cX8_find_0 36 rfl)
theorem dX8_find_37 : decode cX8_find 37 = .ok (.iload_n 3, 1) := dk_29 (blk_at bk_cX8_find_0 37 rfl)
theorem dX8_find_38 : decode cX8_find 38 = .ok (.iload_n 1, 1) := dk_27 (blk_at bk_cX8_find_0 38 rfl)
theorem bk_cX8_find_39 : (cX8_find.data.toList.drop 39).take 38 = [162, 0, 30, 28, 153, 0, 26, 42, 180, 0, 19, 29, 51, 133, 20, 0, 122, 20, 0, 124, 184, 0, 45, 61, 132, 3, 1, 167, 255, 227, 28, 153, 0, 16, 42, 42, 3, 27] := by decide +kernel
theorem dX8_find_39 : decode cX8_find 39 = .ok (.if_icmp .ge 30, 3) := dq_162 bk_cX8_find_39 0 rfl (by decide)
theorem dX8_find_42 : decode cX8_find 42 = .ok (.iload_n 2, 1) := dk_28 (blk_at bk_cX8_find_39 3 rfl)
theorem dX8_find_43 : decode cX8_find 43 = .ok (.ifCond .eq 26, 3) := dq_153 bk_cX8_find_39 4 rfl (by decide)
theorem dX8_find_46 : decode cX8_find 46 = .ok (.aload_n 0, 1) := dk_42 (blk_at bk_cX8_find_39 7 rfl)
theorem dX8_find_47 : decode cX8_find 47 = .ok (.getfield 19, 3) := dq_180 bk_cX8_find_39 8 rfl rfl
theorem dX8_find_50 : decode cX8_find 50 = .ok (.iload_n 3, 1) := dk_29 (blk_at bk_cX8_find_39 11 rfl)
theorem dX8_find_51 : decode cX8_find 51 = .ok (.baload, 1) := dk_51 (blk_at bk_cX8_find_39 12 rfl)
theorem dX8_find_52 : decode cX8_find 52 = .ok (.i2l, 1) := dk_133 (blk_at bk_cX8_find_39 13 rfl)
theorem dX8_find_53 : decode cX8_find 53 = .ok (.ldc2_w 122, 3) := dq_20 bk_cX8_find_39 14 rfl rfl
theorem dX8_find_56 : decode cX8_find 56 = .ok (.ldc2_w 124, 3) := dq_20 bk_cX8_find_39 17 rfl rfl
theorem dX8_find_59 : decode cX8_find 59 = .ok (.invokestatic 45, 3) := dq_184 bk_cX8_find_39 20 rfl rfl
theorem dX8_find_62 : decode cX8_find 62 = .ok (.istore_n 2, 1) := dk_61 (blk_at bk_cX8_find_39 23 rfl)
theorem dX8_find_63 : decode cX8_find 63 = .ok (.iinc 3 1, 3) := dq_132 bk_cX8_find_39 24 rfl rfl (by decide)
theorem dX8_find_66 : decode cX8_find 66 = .ok (.goto (-29), 3) := dq_167 bk_cX8_find_39 27 rfl (by decide)
theorem dX8_find_69 : decode cX8_find 69 = .ok (.iload_n 2, 1) := dk_28 (blk_at bk_cX8_find_39 30 rfl)
theorem dX8_find_70 : decode cX8_find 70 = .ok (.ifCond .eq 16, 3) := dq_153 bk_cX8_find_39 31 rfl (by decide)
theorem dX8_find_73 : decode cX8_find 73 = .ok (.aload_n 0, 1) := dk_42 (blk_at bk_cX8_find_39 34 rfl)
theorem dX8_find_74 : decode cX8_find 74 = .ok (.aload_n 0, 1) := dk_42 (blk_at bk_cX8_find_39 35 rfl)
theorem dX8_find_75 : decode cX8_find 75 = .ok (.iconst 0, 1) := dk_3 (blk_at bk_cX8_find_39 36 rfl)
theorem dX8_find_76 : decode cX8_find 76 = .ok (.iload_n 1, 1) := dk_27 (blk_at bk_cX8_find_39 37 rfl)
theorem bk_cX8_find_77 : (cX8_find.data.toList.drop 77).take 12 = [182, 0, 204, 182, 0, 224, 167, 0, 5, 16, 254, 172] := by decide +kernel
theorem dX8_find_77 : decode cX8_find 77 = .ok (.invokevirtual 204, 3) := dq_182 bk_cX8_find_77 0 rfl rfl
theorem dX8_find_80 : decode cX8_find 80 = .ok (.invokevirtual 224, 3) := dq_182 bk_cX8_find_77 3 rfl rfl
theorem dX8_find_83 : decode cX8_find 83 = .ok (.goto 5, 3) := dq_167 bk_cX8_find_77 6 rfl (by decide)
theorem dX8_find_86 : decode cX8_find 86 = .ok (.bipush (-2), 2) := dq_16 bk_cX8_find_77 9 rfl (by decide)
theorem dX8_find_88 : decode cX8_find 88 = .ok (.ireturn, 1) := dk_172 (blk_at bk_cX8_find_77 11 rfl)
theorem bk_cX8_series_0 : (cX8_series.data.toList.drop 0).take 39 = [42, 27, 182, 1, 17, 153, 0, 15, 28, 133, 9, 20, 1, 12, 184, 0, 45, 154, 0, 6, 16, 254, 172, 28, 8, 162, 0, 12, 42, 27, 28, 182, 0, 67, 167, 0, 16, 42, 27] := by decide +kernel
theorem dX8_series_0 : decode cX8_series 0 = .ok (.aload_n 0, 1) := dk_42 (blk_at bk_cX8_series_0 0 rfl)
theorem dX8_series_1 : decode cX8_series 1 = .ok (.iload_n 1, 1) := dk_27 (blk_at bk_cX8_series_0 1 rfl)
theorem dX8_series_2 : decode cX8_series 2 = .ok (.invokevirtual 273, 3) := dq_182 bk_cX8_series_0 2 rfl rfl
theorem dX8_series_5 : decode cX8_series 5 = .ok (.ifCond .eq 15, 3) := dq_153 bk_cX8_series_0 5 rfl (by decide)
theorem dX8_series_8 : decode cX8_series 8 = .ok (.iload_n 2, 1) := dk_28 (blk_at bk_cX8_series_0 8 rfl)
theorem dX8_series_9 : decode cX8_series 9 = .ok (.i2l, 1) := dk_133 (blk_at bk_cX8_series_0 9 rfl)
theorem dX8_series_10 : decode cX8_series 10 = .ok (.lconst 0, 1) := dk_9 (blk_at bk_cX8_series_0 10 rfl)
theorem dX8_series_11 : decode cX8_series 11 = .ok (.ldc2_w 268, 3) := dq_20 bk_cX8_series_0 11 rfl rfl
theorem dX8_series_14 : decode cX8_series 14 = .ok (.invokestatic 45, 3) := dq_184 bk_cX8_series_0 14 rfl rfl
theorem dX8_series_17 : decode cX8_series 17 = .ok (.ifCond .ne 6, 3) := dq_154 bk_cX8_series_0 17 rfl (by decide)
theorem dX8_series_20 : decode cX8_series 20 = .ok (.bipush (-2), 2) := dq_16 bk_cX8_series_0 20 rfl (by decide)
theorem dX8_series_22 : decode cX8_series 22 = .ok (.ireturn, 1) := dk_172 (blk_at bk_cX8_series_0 22 rfl)
theorem dX8_series_23 : decode cX8_series 23 = .ok (.iload_n 2, 1) := dk_28 (blk_at bk_cX8_series_0 23 rfl)
theorem dX8_series_24 : decode cX8_series 24 = .ok (.iconst 5, 1) := dk_8 (blk_at bk_cX8_series_0 24 rfl)
theorem dX8_series_25 : decode cX8_series 25 = .ok (.if_icmp .ge 12, 3) := dq_162 bk_cX8_series_0 25 rfl (by decide)
theorem dX8_series_28 : decode cX8_series 28 = .ok (.aload_n 0, 1) := dk_42 (blk_at bk_cX8_series_0 28 rfl)
theorem dX8_series_29 : decode cX8_series 29 = .ok (.iload_n 1, 1) := dk_27 (blk_at bk_cX8_series_0 29 rfl)
theorem dX8_series_30 : decode cX8_series 30 = .ok (.iload_n 2, 1) := dk_28 (blk_at bk_cX8_series_0 30 rfl)
theorem dX8_series_31 : decode cX8_series 31 = .ok (.invokevirtual 67, 3) := dq_182 bk_cX8_series_0 31 rfl rfl
theorem dX8_series_34 : decode cX8_series 34 = .ok (.goto 16, 3) := dq_167 bk_cX8_series_0 34 rfl (by decide)
theorem dX8_series_37 : decode cX8_series 37 = .ok (.aload_n 0, 1) := dk_42 (blk_at bk_cX8_series_0 37 rfl)
theorem dX8_series_38 : decode cX8_series 38 = .ok (.iload_n 1, 1) := dk_27 (blk_at bk_cX8_series_0 38 rfl)
theorem bk_cX8_series_39 : (cX8_series.data.toList.drop 39).take 12 = [182, 0, 71, 42, 27, 16, 11, 182, 0, 67, 128, 172] := by decide +kernel
theorem dX8_series_39 : decode cX8_series 39 = .ok (.invokevirtual 71, 3) := dq_182 bk_cX8_series_39 0 rfl rfl
theorem dX8_series_42 : decode cX8_series 42 = .ok (.aload_n 0, 1) := dk_42 (blk_at bk_cX8_series_39 3 rfl)
theorem dX8_series_43 : decode cX8_series 43 = .ok (.iload_n 1, 1) := dk_27 (blk_at bk_cX8_series_39 4 rfl)
theorem dX8_series_44 : decode cX8_series 44 = .ok (.bipush 11, 2) := dq_16 bk_cX8_series_39 5 rfl (by decide)
theorem dX8_series_46 : decode cX8_series 46 = .ok (.invokevirtual 67, 3) := dq_182 bk_cX8_series_39 7 rfl rfl
theorem dX8_series_49 : decode cX8_series 49 = .ok (.ior, 1) := dk_128 (blk_at bk_cX8_series_39 10 rfl)
theorem dX8_series_50 : decode cX8_series 50 = .ok (.ireturn, 1) := dk_172 (blk_at bk_cX8_series_39 11 rfl)
theorem bk_cX8_weeks_0 : (cX8_weeks.data.toList.drop 0).take 35 = [42, 27, 182, 1, 17, 153, 0, 27, 28, 133, 9, 20, 1, 20, 184, 0, 45, 153, 0, 15, 42, 27, 16, 7, 28, 96, 182, 0, 67, 167, 0, 5, 16, 254, 172] := by decide +kernel
theorem dX8_weeks_0 : decode cX8_weeks 0 = .ok (.aload_n 0, 1) := dk_42 (blk_at bk_cX8_weeks_0 0 rfl)
theorem dX8_weeks_1 : decode cX8_weeks 1 = .ok (.iload_n 1, 1) := dk_27 (blk_at bk_cX8_weeks_0 1 rfl)
theorem dX8_weeks_2 : decode cX8_weeks 2 = .ok (.invokevirtual 273, 3) := dq_182 bk_cX8_weeks_0 2 rfl rfl
theorem dX8_weeks_5 : decode cX8_weeks 5 = .ok (.ifCond .eq 27, 3) := dq_153 bk_cX8_weeks_0 5 rfl (by decide)
theorem dX8_weeks_8 : decode cX8_weeks 8 = .ok (.iload_n 2, 1) := dk_28 (blk_at bk_cX8_weeks_0 8 rfl)
theorem dX8_weeks_9 : decode cX8_weeks 9 = .ok (.i2l, 1) := dk_133 (blk_at bk_cX8_weeks_0 9 rfl)
theorem dX8_weeks_10 : decode cX8_weeks 10 = .ok (.lconst 0, 1) := dk_9 (blk_at bk_cX8_weeks_0 10 rfl)
theorem dX8_weeks_11 : decode cX8_weeks 11 = .ok (.ldc2_w 276, 3) := dq_20 bk_cX8_weeks_0 11 rfl rfl
theorem dX8_weeks_14 : decode cX8_weeks 14 = .ok (.invokestatic 45, 3) := dq_184 bk_cX8_weeks_0 14 rfl rfl
theorem dX8_weeks_17 : decode cX8_weeks 17 = .ok (.ifCond .eq 15, 3) := dq_153 bk_cX8_weeks_0 17 rfl (by decide)
theorem dX8_weeks_20 : decode cX8_weeks 20 = .ok (.aload_n 0, 1) := dk_42 (blk_at bk_cX8_weeks_0 20 rfl)
theorem dX8_weeks_21 : decode cX8_weeks 21 = .ok (.iload_n 1, 1) := dk_27 (blk_at bk_cX8_weeks_0 21 rfl)
theorem dX8_weeks_22 : decode cX8_weeks 22 = .ok (.bipush 7, 2) := dq_16 bk_cX8_weeks_0 22 rfl (by decide)
theorem dX8_weeks_24 : decode cX8_weeks 24 = .ok (.iload_n 2, 1) := dk_28 (blk_at bk_cX8_weeks_0 24 rfl)
theorem dX8_weeks_25 : decode cX8_weeks 25 = .ok (.iadd, 1) := dk_96 (blk_at bk_cX8_weeks_0 25 rfl)
theorem dX8_weeks_26 : decode cX8_weeks 26 = .ok (.invokevirtual 67, 3) := dq_182 bk_cX8_weeks_0 26 rfl rfl
theorem dX8_weeks_29 : decode cX8_weeks 29 = .ok (.goto 5, 3) := dq_167 bk_cX8_weeks_0 29 rfl (by decide)
theorem dX8_weeks_32 : decode cX8_weeks 32 = .ok (.bipush (-2), 2) := dq_16 bk_cX8_weeks_0 32 rfl (by decide)
theorem dX8_weeks_34 : decode cX8_weeks 34 = .ok (.ireturn, 1) := dk_172 (blk_at bk_cX8_weeks_0 34 rfl)
theorem bk_cX8_stateOf_0 : (cX8_stateOf.data.toList.drop 0).take 33 = [3, 62, 29, 8, 162, 0, 27, 42, 27, 16, 7, 29, 96, 182, 0, 67, 28, 184, 0, 75, 153, 0, 5, 29, 172, 132, 3, 1, 167, 255, 230, 2, 172] := by decide +kernel
theorem dX8_stateOf_0 : decode cX8_stateOf 0 = .ok (.iconst 0, 1) := dk_3 (blk_at bk_cX8_stateOf_0 0 rfl)
theorem dX8_stateOf_1 : decode cX8_stateOf 1 = .ok (.istore_n 3, 1) := dk_62 (blk_at bk_cX8_stateOf_0 1 rfl)
theorem dX8_stateOf_2 : decode cX8_stateOf 2 = .ok (.iload_n 3, 1) := dk_29 (blk_at bk_cX8_stateOf_0 2 rfl)
theorem dX8_stateOf_3 : decode cX8_stateOf 3 = .ok (.iconst 5, 1) := dk_8 (blk_at bk_cX8_stateOf_0 3 rfl)
theorem dX8_stateOf_4 : decode cX8_stateOf 4 = .ok (.if_icmp .ge 27, 3) := dq_162 bk_cX8_stateOf_0 4 rfl (by decide)
theorem dX8_stateOf_7 : decode cX8_stateOf 7 = .ok (.aload_n 0, 1) := dk_42 (blk_at bk_cX8_stateOf_0 7 rfl)
theorem dX8_stateOf_8 : decode cX8_stateOf 8 = .ok (.iload_n 1, 1) := dk_27 (blk_at bk_cX8_stateOf_0 8 rfl)
theorem dX8_stateOf_9 : decode cX8_stateOf 9 = .ok (.bipush 7, 2) := dq_16 bk_cX8_stateOf_0 9 rfl (by decide)
theorem dX8_stateOf_11 : decode cX8_stateOf 11 = .ok (.iload_n 3, 1) := dk_29 (blk_at bk_cX8_stateOf_0 11 rfl)
theorem dX8_stateOf_12 : decode cX8_stateOf 12 = .ok (.iadd, 1) := dk_96 (blk_at bk_cX8_stateOf_0 12 rfl)
theorem dX8_stateOf_13 : decode cX8_stateOf 13 = .ok (.invokevirtual 67, 3) := dq_182 bk_cX8_stateOf_0 13 rfl rfl
theorem dX8_stateOf_16 : decode cX8_stateOf 16 = .ok (.iload_n 2, 1) := dk_28 (blk_at bk_cX8_stateOf_0 16 rfl)
theorem dX8_stateOf_17 : decode cX8_stateOf 17 = .ok (.invokestatic 75, 3) := dq_184 bk_cX8_stateOf_0 17 rfl rfl
theorem dX8_stateOf_20 : decode cX8_stateOf 20 = .ok (.ifCond .eq 5, 3) := dq_153 bk_cX8_stateOf_0 20 rfl (by decide)
theorem dX8_stateOf_23 : decode cX8_stateOf 23 = .ok (.iload_n 3, 1) := dk_29 (blk_at bk_cX8_stateOf_0 23 rfl)
theorem dX8_stateOf_24 : decode cX8_stateOf 24 = .ok (.ireturn, 1) := dk_172 (blk_at bk_cX8_stateOf_0 24 rfl)
theorem dX8_stateOf_25 : decode cX8_stateOf 25 = .ok (.iinc 3 1, 3) := dq_132 bk_cX8_stateOf_0 25 rfl rfl (by decide)
theorem dX8_stateOf_28 : decode cX8_stateOf 28 = .ok (.goto (-26), 3) := dq_167 bk_cX8_stateOf_0 28 rfl (by decide)
theorem dX8_stateOf_31 : decode cX8_stateOf 31 = .ok (.iconst (-1), 1) := dk_2 (blk_at bk_cX8_stateOf_0 31 rfl)
theorem dX8_stateOf_32 : decode cX8_stateOf 32 = .ok (.ireturn, 1) := dk_172 (blk_at bk_cX8_stateOf_0 32 rfl)
theorem bk_cX8_week_0 : (cX8_week.data.toList.drop 0).take 28 = [42, 27, 182, 1, 17, 153, 0, 20, 42, 28, 182, 0, 57, 153, 0, 12, 42, 27, 28, 182, 1, 22, 167, 0, 5, 16, 254, 172] := by decide +kernel
theorem dX8_week_0 : decode cX8_week 0 = .ok (.aload_n 0, 1) := dk_42 (blk_at bk_cX8_week_0 0 rfl)
theorem dX8_week_1 : decode cX8_week 1 = .ok (.iload_n 1, 1) := dk_27 (blk_at bk_cX8_week_0 1 rfl)
theorem dX8_week_2 : decode cX8_week 2 = .ok (.invokevirtual 273, 3) := dq_182 bk_cX8_week_0 2 rfl rfl
theorem dX8_week_5 : decode cX8_week 5 = .ok (.ifCond .eq 20, 3) := dq_153 bk_cX8_week_0 5 rfl (by decide)
theorem dX8_week_8 : decode cX8_week 8 = .ok (.aload_n 0, 1) := dk_42 (blk_at bk_cX8_week_0 8 rfl)
theorem dX8_week_9 : decode cX8_week 9 = .ok (.iload_n 2, 1) := dk_28 (blk_at bk_cX8_week_0 9 rfl)
theorem dX8_week_10 : decode cX8_week 10 = .ok (.invokevirtual 57, 3) := dq_182 bk_cX8_week_0 10 rfl rfl
theorem dX8_week_13 : decode cX8_week 13 = .ok (.ifCond .eq 12, 3) := dq_153 bk_cX8_week_0 13 rfl (by decide)
theorem dX8_week_16 : decode cX8_week 16 = .ok (.aload_n 0, 1) := dk_42 (blk_at bk_cX8_week_0 16 rfl)
theorem dX8_week_17 : decode cX8_week 17 = .ok (.iload_n 1, 1) := dk_27 (blk_at bk_cX8_week_0 17 rfl)
theorem dX8_week_18 : decode cX8_week 18 = .ok (.iload_n 2, 1) := dk_28 (blk_at bk_cX8_week_0 18 rfl)
theorem dX8_week_19 : decode cX8_week 19 = .ok (.invokevirtual 278, 3) := dq_182 bk_cX8_week_0 19 rfl rfl
theorem dX8_week_22 : decode cX8_week 22 = .ok (.goto 5, 3) := dq_167 bk_cX8_week_0 22 rfl (by decide)
theorem dX8_week_25 : decode cX8_week 25 = .ok (.bipush (-2), 2) := dq_16 bk_cX8_week_0 25 rfl (by decide)
theorem dX8_week_27 : decode cX8_week 27 = .ok (.ireturn, 1) := dk_172 (blk_at bk_cX8_week_0 27 rfl)
theorem bk_cX8_asked_0 : (cX8_asked.data.toList.drop 0).take 32 = [42, 27, 182, 1, 25, 153, 0, 24, 28, 133, 9, 20, 0, 53, 184, 0, 45, 153, 0, 12, 42, 27, 28, 182, 1, 28, 167, 0, 5, 16, 254, 172] := by decide +kernel
theorem dX8_asked_0 : decode cX8_asked 0 = .ok (.aload_n 0, 1) := dk_42 (blk_at bk_cX8_asked_0 0 rfl)
theorem dX8_asked_1 : decode cX8_asked 1 = .ok (.iload_n 1, 1) := dk_27 (blk_at bk_cX8_asked_0 1 rfl)
theorem dX8_asked_2 : decode cX8_asked 2 = .ok (.invokevirtual 281, 3) := dq_182 bk_cX8_asked_0 2 rfl rfl
theorem dX8_asked_5 : decode cX8_asked 5 = .ok (.ifCond .eq 24, 3) := dq_153 bk_cX8_asked_0 5 rfl (by decide)
theorem dX8_asked_8 : decode cX8_asked 8 = .ok (.iload_n 2, 1) := dk_28 (blk_at bk_cX8_asked_0 8 rfl)
theorem dX8_asked_9 : decode cX8_asked 9 = .ok (.i2l, 1) := dk_133 (blk_at bk_cX8_asked_0 9 rfl)
theorem dX8_asked_10 : decode cX8_asked 10 = .ok (.lconst 0, 1) := dk_9 (blk_at bk_cX8_asked_0 10 rfl)
theorem dX8_asked_11 : decode cX8_asked 11 = .ok (.ldc2_w 53, 3) := dq_20 bk_cX8_asked_0 11 rfl rfl
theorem dX8_asked_14 : decode cX8_asked 14 = .ok (.invokestatic 45, 3) := dq_184 bk_cX8_asked_0 14 rfl rfl
theorem dX8_asked_17 : decode cX8_asked 17 = .ok (.ifCond .eq 12, 3) := dq_153 bk_cX8_asked_0 17 rfl (by decide)
theorem dX8_asked_20 : decode cX8_asked 20 = .ok (.aload_n 0, 1) := dk_42 (blk_at bk_cX8_asked_0 20 rfl)
theorem dX8_asked_21 : decode cX8_asked 21 = .ok (.iload_n 1, 1) := dk_27 (blk_at bk_cX8_asked_0 21 rfl)
theorem dX8_asked_22 : decode cX8_asked 22 = .ok (.iload_n 2, 1) := dk_28 (blk_at bk_cX8_asked_0 22 rfl)
theorem dX8_asked_23 : decode cX8_asked 23 = .ok (.invokevirtual 284, 3) := dq_182 bk_cX8_asked_0 23 rfl rfl
theorem dX8_asked_26 : decode cX8_asked 26 = .ok (.goto 5, 3) := dq_167 bk_cX8_asked_0 26 rfl (by decide)
theorem dX8_asked_29 : decode cX8_asked 29 = .ok (.bipush (-2), 2) := dq_16 bk_cX8_asked_0 29 rfl (by decide)
theorem dX8_asked_31 : decode cX8_asked 31 = .ok (.ireturn, 1) := dk_172 (blk_at bk_cX8_asked_0 31 rfl)
theorem bk_cX8_limitOf_0 : (cX8_limitOf.data.toList.drop 0).take 37 = [42, 27, 182, 0, 64, 153, 0, 29, 28, 133, 9, 10, 184, 0, 45, 153, 0, 19, 42, 180, 0, 9, 16, 6, 5, 27, 104, 96, 28, 96, 46, 167, 0, 5, 16, 254, 172] := by decide +kernel
theorem dX8_limitOf_0 : decode cX8_limitOf 0 = .ok (.aload_n 0, 1) := dk_42 (blk_at bk_cX8_limitOf_0 0 rfl)
theorem dX8_limitOf_1 : decode cX8_limitOf 1 = .ok (.iload_n 1, 1) := dk_27 (blk_at bk_cX8_limitOf_0 1 rfl)
theorem dX8_limitOf_2 : decode cX8_limitOf 2 = .ok (.invokevirtual 64, 3) := dq_182 bk_cX8_limitOf_0 2 rfl rfl
theorem dX8_limitOf_5 : decode cX8_limitOf 5 = .ok (.ifCond .eq 29, 3) := dq_153 bk_cX8_limitOf_0 5 rfl (by decide)
theorem dX8_limitOf_8 : decode cX8_limitOf 8 = .ok (.iload_n 2, 1) := dk_28 (blk_at bk_cX8_limitOf_0 8 rfl)
theorem dX8_limitOf_9 : decode cX8_limitOf 9 = .ok (.i2l, 1) := dk_133 (blk_at bk_cX8_limitOf_0 9 rfl)
theorem dX8_limitOf_10 : decode cX8_limitOf 10 = .ok (.lconst 0, 1) := dk_9 (blk_at bk_cX8_limitOf_0 10 rfl)
theorem dX8_limitOf_11 : decode cX8_limitOf 11 = .ok (.lconst 1, 1) := dk_10 (blk_at bk_cX8_limitOf_0 11 rfl)
theorem dX8_limitOf_12 : decode cX8_limitOf 12 = .ok (.invokestatic 45, 3) := dq_184 bk_cX8_limitOf_0 12 rfl rfl
theorem dX8_limitOf_15 : decode cX8_limitOf 15 = .ok (.ifCond .eq 19, 3) := dq_153 bk_cX8_limitOf_0 15 rfl (by decide)
theorem dX8_limitOf_18 : decode cX8_limitOf 18 = .ok (.aload_n 0, 1) := dk_42 (blk_at bk_cX8_limitOf_0 18 rfl)
theorem dX8_limitOf_19 : decode cX8_limitOf 19 = .ok (.getfield 9, 3) := dq_180 bk_cX8_limitOf_0 19 rfl rfl
theorem dX8_limitOf_22 : decode cX8_limitOf 22 = .ok (.bipush 6, 2) := dq_16 bk_cX8_limitOf_0 22 rfl (by decide)
theorem dX8_limitOf_24 : decode cX8_limitOf 24 = .ok (.iconst 2, 1) := dk_5 (blk_at bk_cX8_limitOf_0 24 rfl)
theorem dX8_limitOf_25 : decode cX8_limitOf 25 = .ok (.iload_n 1, 1) := dk_27 (blk_at bk_cX8_limitOf_0 25 rfl)
theorem dX8_limitOf_26 : decode cX8_limitOf 26 = .ok (.imul, 1) := dk_104 (blk_at bk_cX8_limitOf_0 26 rfl)
theorem dX8_limitOf_27 : decode cX8_limitOf 27 = .ok (.iadd, 1) := dk_96 (blk_at bk_cX8_limitOf_0 27 rfl)
theorem dX8_limitOf_28 : decode cX8_limitOf 28 = .ok (.iload_n 2, 1) := dk_28 (blk_at bk_cX8_limitOf_0 28 rfl)
theorem dX8_limitOf_29 : decode cX8_limitOf 29 = .ok (.iadd, 1) := dk_96 (blk_at bk_cX8_limitOf_0 29 rfl)
theorem dX8_limitOf_30 : decode cX8_limitOf 30 = .ok (.iaload, 1) := dk_46 (blk_at bk_cX8_limitOf_0 30 rfl)
theorem dX8_limitOf_31 : decode cX8_limitOf 31 = .ok (.goto 5, 3) := dq_167 bk_cX8_limitOf_0 31 rfl (by decide)
theorem dX8_limitOf_34 : decode cX8_limitOf 34 = .ok (.bipush (-2), 2) := dq_16 bk_cX8_limitOf_0 34 rfl (by decide)
theorem dX8_limitOf_36 : decode cX8_limitOf 36 = .ok (.ireturn, 1) := dk_172 (blk_at bk_cX8_limitOf_0 36 rfl)
theorem bk_cX8_load_0 : (cX8_load.data.toList.drop 0).take 39 = [42, 27, 28, 29, 182, 1, 31, 153, 0, 29, 21, 4, 133, 9, 20, 1, 35, 184, 0, 45, 153, 0, 16, 42, 27, 28, 29, 21, 4, 2, 182, 0, 86, 167, 0, 5, 16, 254, 172] := by decide +kernel
theorem dX8_load_0 : decode cX8_load 0 = .ok (.aload_n 0, 1) := dk_42 (blk_at bk_cX8_load_0 0 rfl)
theorem dX8_load_1 : decode cX8_load 1 = .ok (.iload_n 1, 1) := dk_27 (blk_at bk_cX8_load_0 1 rfl)
theorem dX8_load_2 : decode cX8_load 2 = .ok (.iload_n 2, 1) := dk_28 (blk_at bk_cX8_load_0 2 rfl)
theorem dX8_load_3 : decode cX8_load 3 = .ok (.iload_n 3, 1) := dk_29 (blk_at bk_cX8_load_0 3 rfl)
theorem dX8_load_4 : decode cX8_load 4 = .ok (.invokevirtual 287, 3) := dq_182 bk_cX8_load_0 4 rfl rfl
theorem dX8_load_7 : decode cX8_load 7 = .ok (.ifCond .eq 29, 3) := dq_153 bk_cX8_load_0 7 rfl (by decide)
theorem dX8_load_10 : decode cX8_load 10 = .ok (.iload 4, 2) := dq_21 bk_cX8_load_0 10 rfl rfl
theorem dX8_load_12 : decode cX8_load 12 = .ok (.i2l, 1) := dk_133 (blk_at bk_cX8_load_0 12 rfl)
theorem dX8_load_13 : decode cX8_load 13 = .ok (.lconst 0, 1) := dk_9 (blk_at bk_cX8_load_0 13 rfl)
theorem dX8_load_14 : decode cX8_load 14 = .ok (.ldc2_w 291, 3) := dq_20 bk_cX8_load_0 14 rfl rfl
theorem dX8_load_17 : decode cX8_load 17 = .ok (.invokestatic 45, 3) := dq_184 bk_cX8_load_0 17 rfl rfl
theorem dX8_load_20 : decode cX8_load 20 = .ok (.ifCond .eq 16, 3) := dq_153 bk_cX8_load_0 20 rfl (by decide)
theorem dX8_load_23 : decode cX8_load 23 = .ok (.aload_n 0, 1) := dk_42 (blk_at bk_cX8_load_0 23 rfl)
theorem dX8_load_24 : decode cX8_load 24 = .ok (.iload_n 1, 1) := dk_27 (blk_at bk_cX8_load_0 24 rfl)
theorem dX8_load_25 : decode cX8_load 25 = .ok (.iload_n 2, 1) := dk_28 (blk_at bk_cX8_load_0 25 rfl)
theorem dX8_load_26 : decode cX8_load 26 = .ok (.iload_n 3, 1) := dk_29 (blk_at bk_cX8_load_0 26 rfl)
theorem dX8_load_27 : decode cX8_load 27 = .ok (.iload 4, 2) := dq_21 bk_cX8_load_0 27 rfl rfl
theorem dX8_load_29 : decode cX8_load 29 = .ok (.iconst (-1), 1) := dk_2 (blk_at bk_cX8_load_0 29 rfl)
theorem dX8_load_30 : decode cX8_load 30 = .ok (.invokevirtual 86, 3) := dq_182 bk_cX8_load_0 30 rfl rfl
theorem dX8_load_33 : decode cX8_load 33 = .ok (.goto 5, 3) := dq_167 bk_cX8_load_0 33 rfl (by decide)
theorem dX8_load_36 : decode cX8_load 36 = .ok (.bipush (-2), 2) := dq_16 bk_cX8_load_0 36 rfl (by decide)
theorem dX8_load_38 : decode cX8_load 38 = .ok (.ireturn, 1) := dk_172 (blk_at bk_cX8_load_0 38 rfl)
theorem bk_cX8_at_0 : (cX8_at.data.toList.drop 0).take 40 = [42, 27, 28, 29, 182, 1, 31, 153, 0, 8, 21, 4, 156, 0, 6, 16, 254, 172, 21, 4, 54, 5, 3, 54, 6, 21, 6, 42, 180, 0, 9, 5, 46, 162, 0, 58, 42, 21, 6, 4] := by decide +kernel
theorem dX8_at_0 : decode cX8_at 0 = .ok (.aload_n 0, 1) := dk_42 (blk_at bk_cX8_at_0 0 rfl)
theorem dX8_at_1 : decode cX8_at 1 = .ok (.iload_n 1, 1) := dk_27 (blk_at bk_cX8_at_0 1 rfl)
theorem dX8_at_2 : decode cX8_at 2 = .ok (.iload_n 2, 1) := dk_28 (blk_at bk_cX8_at_0 2 rfl)
theorem dX8_at_3 : decode cX8_at 3 = .ok (.iload_n 3, 1) := dk_29 (blk_at bk_cX8_at_0 3 rfl)
theorem dX8_at_4 : decode cX8_at 4 = .ok (.invokevirtual 287, 3) := dq_182 bk_cX8_at_0 4 rfl rfl
theorem dX8_at_7 : decode cX8_at 7 = .ok (.ifCond .eq 8, 3) := dq_153 bk_cX8_at_0 7 rfl (by decide)
theorem dX8_at_10 : decode cX8_at 10 = .ok (.iload 4, 2) := dq_21 bk_cX8_at_0 10 rfl rfl
theorem dX8_at_12 : decode cX8_at 12 = .ok (.ifCond .ge 6, 3) := dq_156 bk_cX8_at_0 12 rfl (by decide)
theorem dX8_at_15 : decode cX8_at 15 = .ok (.bipush (-2), 2) := dq_16 bk_cX8_at_0 15 rfl (by decide)
theorem dX8_at_17 : decode cX8_at 17 = .ok (.ireturn, 1) := dk_172 (blk_at bk_cX8_at_0 17 rfl)
theorem dX8_at_18 : decode cX8_at 18 = .ok (.iload 4, 2) := dq_21 bk_cX8_at_0 18 rfl rfl
theorem dX8_at_20 : decode cX8_at 20 = .ok (.istore 5, 2) := dq_54 bk_cX8_at_0 20 rfl rfl
theorem dX8_at_22 : decode cX8_at 22 = .ok (.iconst 0, 1) := dk_3 (blk_at bk_cX8_at_0 22 rfl)
theorem dX8_at_23 : decode cX8_at 23 = .ok (.istore 6, 2) := dq_54 bk_cX8_at_0 23 rfl rfl
theorem dX8_at_25 : decode cX8_at 25 = .ok (.iload 6, 2) := dq_21 bk_cX8_at_0 25 rfl rfl
theorem dX8_at_27 : decode cX8_at 27 = .ok (.aload_n 0, 1) := dk_42 (blk_at bk_cX8_at_0 27 rfl)
theorem dX8_at_28 : decode cX8_at 28 = .ok (.getfield 9, 3) := dq_180 bk_cX8_at_0 28 rfl rfl
theorem dX8_at_31 : decode cX8_at 31 = .ok (.iconst 2, 1) := dk_5 (blk_at bk_cX8_at_0 31 rfl)
theorem dX8_at_32 : decode cX8_at 32 = .ok (.iaload, 1) := dk_46 (blk_at bk_cX8_at_0 32 rfl)
theorem dX8_at_33 : decode cX8_at 33 = .ok (.if_icmp .ge 58, 3) := dq_162 bk_cX8_at_0 33 rfl (by decide)
theorem dX8_at_36 : decode cX8_at 36 = .ok (.aload_n 0, 1) := dk_42 (blk_at bk_cX8_at_0 36 rfl)
theorem dX8_at_37 : decode cX8_at 37 = .ok (.iload 6, 2) := dq_21 bk_cX8_at_0 37 rfl rfl
theorem dX8_at_39 : decode cX8_at 39 = .ok (.iconst 1, 1) := dk_4 (blk_at bk_cX8_at_0 39 rfl)
theorem bk_cX8_at_40 : (cX8_at.data.toList.drop 40).take 39 = [182, 0, 67, 28, 160, 0, 41, 42, 21, 6, 5, 182, 0, 67, 29, 160, 0, 30, 42, 21, 6, 182, 0, 71, 27, 184, 0, 75, 154, 0, 6, 167, 0, 14, 21, 5, 154, 0, 6] := by decide +kernel
theorem dX8_at_40 : decode cX8_at 40 = .ok (.invokevirtual 67, 3) := dq_182 bk_cX8_at_40 0 rfl rfl
theorem dX8_at_43 : decode cX8_at 43 = .ok (.iload_n 2, 1) := dk_28 (blk_at bk_cX8_at_40 3 rfl)
theorem dX8_at_44 : decode cX8_at 44 = .ok (.if_icmp .ne 41, 3) := dq_160 bk_cX8_at_40 4 rfl (by decide)
theorem dX8_at_47 : decode cX8_at 47 = .ok (.aload_n 0, 1) := dk_42 (blk_at bk_cX8_at_40 7 rfl)
theorem dX8_at_48 : decode cX8_at 48 = .ok (.iload 6, 2) := dq_21 bk_cX8_at_40 8 rfl rfl
theorem dX8_at_50 : decode cX8_at 50 = .ok (.iconst 2, 1) := dk_5 (blk_at bk_cX8_at_40 10 rfl)
theorem dX8_at_51 : decode cX8_at 51 = .ok (.invokevirtual 67, 3) := dq_182 bk_cX8_at_40 11 rfl rfl
theorem dX8_at_54 : decode cX8_at 54 = .ok (.iload_n 3, 1) := dk_29 (blk_at bk_cX8_at_40 14 rfl)
theorem dX8_at_55 : decode cX8_at 55 = .ok (.if_icmp .ne 30, 3) := dq_160 bk_cX8_at_40 15 rfl (by decide)
theorem dX8_at_58 : decode cX8_at 58 = .ok (.aload_n 0, 1) := dk_42 (blk_at bk_cX8_at_40 18 rfl)
theorem dX8_at_59 : decode cX8_at 59 = .ok (.iload 6, 2) := dq_21 bk_cX8_at_40 19 rfl rfl
theorem dX8_at_61 : decode cX8_at 61 = .ok (.invokevirtual 71, 3) := dq_182 bk_cX8_at_40 21 rfl rfl
theorem dX8_at_64 : decode cX8_at 64 = .ok (.iload_n 1, 1) := dk_27 (blk_at bk_cX8_at_40 24 rfl)
theorem dX8_at_65 : decode cX8_at 65 = .ok (.invokestatic 75, 3) := dq_184 bk_cX8_at_40 25 rfl rfl
theorem dX8_at_68 : decode cX8_at 68 = .ok (.ifCond .ne 6, 3) := dq_154 bk_cX8_at_40 28 rfl (by decide)
theorem dX8_at_71 : decode cX8_at 71 = .ok (.goto 14, 3) := dq_167 bk_cX8_at_40 31 rfl (by decide)
theorem dX8_at_74 : decode cX8_at 74 = .ok (.iload 5, 2) := dq_21 bk_cX8_at_40 34 rfl rfl
theorem dX8_at_76 : decode cX8_at 76 = .ok (.ifCond .ne 6, 3) := dq_154 bk_cX8_at_40 36 rfl (by decide)
theorem bk_cX8_at_79 : (cX8_at.data.toList.drop 79).take 14 = [21, 6, 172, 132, 5, 255, 132, 6, 1, 167, 255, 193, 2, 172] := by decide +kernel
theorem dX8_at_79 : decode cX8_at 79 = .ok (.iload 6, 2) := dq_21 bk_cX8_at_79 0 rfl rfl
theorem dX8_at_81 : decode cX8_at 81 = .ok (.ireturn, 1) := dk_172 (blk_at bk_cX8_at_79 2 rfl)
theorem dX8_at_82 : decode cX8_at 82 = .ok (.iinc 5 (-1), 3) := dq_132 bk_cX8_at_79 3 rfl rfl (by decide)
theorem dX8_at_85 : decode cX8_at 85 = .ok (.iinc 6 1, 3) := dq_132 bk_cX8_at_79 6 rfl rfl (by decide)
theorem dX8_at_88 : decode cX8_at 88 = .ok (.goto (-63), 3) := dq_167 bk_cX8_at_79 9 rfl (by decide)
theorem dX8_at_91 : decode cX8_at 91 = .ok (.iconst (-1), 1) := dk_2 (blk_at bk_cX8_at_79 12 rfl)
theorem dX8_at_92 : decode cX8_at 92 = .ok (.ireturn, 1) := dk_172 (blk_at bk_cX8_at_79 13 rfl)
theorem bk_cX8_room_0 : (cX8_room.data.toList.drop 0).take 40 = [42, 27, 28, 29, 182, 1, 31, 153, 0, 14, 21, 4, 133, 9, 10, 184, 0, 45, 154, 0, 6, 16, 254, 172, 42, 180, 0, 9, 16, 6, 5, 29, 104, 96, 46, 42, 27, 28, 29, 3] := by decide +kernel
theorem dX8_room_0 : decode cX8_room 0 = .ok (.aload_n 0, 1) := dk_42 (blk_at bk_cX8_room_0 0 rfl)
theorem dX8_room_1 : decode cX8_room 1 = .ok (.iload_n 1, 1) := dk_27 (blk_at bk_cX8_room_0 1 rfl)
theorem dX8_room_2 : decode cX8_room 2 = .ok (.iload_n 2, 1) := dk_28 (blk_at bk_cX8_room_0 2 rfl)
theorem dX8_room_3 : decode cX8_room 3 = .ok (.iload_n 3, 1) := dk_29 (blk_at bk_cX8_room_0 3 rfl)
theorem dX8_room_4 : decode cX8_room 4 = .ok (.invokevirtual 287, 3) := dq_182 bk_cX8_room_0 4 rfl rfl
theorem dX8_room_7 : decode cX8_room 7 = .ok (.ifCond .eq 14, 3) := dq_153 bk_cX8_room_0 7 rfl (by decide)
theorem dX8_room_10 : decode cX8_room 10 = .ok (.iload 4, 2) := dq_21 bk_cX8_room_0 10 rfl rfl
theorem dX8_room_12 : decode cX8_room 12 = .ok (.i2l, 1) := dk_133 (blk_at bk_cX8_room_0 12 rfl)
theorem dX8_room_13 : decode cX8_room 13 = .ok (.lconst 0, 1) := dk_9 (blk_at bk_cX8_room_0 13 rfl)
theorem dX8_room_14 : decode cX8_room 14 = .ok (.lconst 1, 1) := dk_10 (blk_at bk_cX8_room_0 14 rfl)
theorem dX8_room_15 : decode cX8_room 15 = .ok (.invokestatic 45, 3) := dq_184 bk_cX8_room_0 15 rfl rfl
theorem dX8_room_18 : decode cX8_room 18 = .ok (.ifCond .ne 6, 3) := dq_154 bk_cX8_room_0 18 rfl (by decide)
theorem dX8_room_21 : decode cX8_room 21 = .ok (.bipush (-2), 2) := dq_16 bk_cX8_room_0 21 rfl (by decide)
theorem dX8_room_23 : decode cX8_room 23 = .ok (.ireturn, 1) := dk_172 (blk_at bk_cX8_room_0 23 rfl)
theorem dX8_room_24 : decode cX8_room 24 = .ok (.aload_n 0, 1) := dk_42 (blk_at bk_cX8_room_0 24 rfl)
theorem dX8_room_25 : decode cX8_room 25 = .ok (.getfield 9, 3) := dq_180 bk_cX8_room_0 25 rfl rfl
theorem dX8_room_28 : decode cX8_room 28 = .ok (.bipush 6, 2) := dq_16 bk_cX8_room_0 28 rfl (by decide)
theorem dX8_room_30 : decode cX8_room 30 = .ok (.iconst 2, 1) := dk_5 (blk_at bk_cX8_room_0 30 rfl)
theorem dX8_room_31 : decode cX8_room 31 = .ok (.iload_n 3, 1) := dk_29 (blk_at bk_cX8_room_0 31 rfl)
theorem dX8_room_32 : decode cX8_room 32 = .ok (.imul, 1) := dk_104 (blk_at bk_cX8_room_0 32 rfl)
theorem dX8_room_33 : decode cX8_room 33 = .ok (.iadd, 1) := dk_96 (blk_at bk_cX8_room_0 33 rfl)
theorem dX8_room_34 : decode cX8_room 34 = .ok (.iaload, 1) := dk_46 (blk_at bk_cX8_room_0 34 rfl)
theorem dX8_room_35 : decode cX8_room 35 = .ok (.aload_n 0, 1) := dk_42 (blk_at bk_cX8_room_0 35 rfl)
theorem dX8_room_36 : decode cX8_room 36 = .ok (.iload_n 1, 1) := dk_27 (blk_at bk_cX8_room_0 36 rfl)
theorem dX8_room_37 : decode cX8_room 37 = .ok (.iload_n 2, 1) := dk_28 (blk_at bk_cX8_room_0 37 rfl)
theorem dX8_room_38 : decode cX8_room 38 = .ok (.iload_n 3, 1) := dk_29 (blk_at bk_cX8_room_0 38 rfl)
theorem dX8_room_39 : decode cX8_room 39 = .ok (.iconst 0, 1) := dk_3 (blk_at bk_cX8_room_0 39 rfl)
theorem bk_cX8_room_40 : (cX8_room.data.toList.drop 40).take 40 = [2, 182, 0, 86, 100, 54, 5, 42, 180, 0, 9, 16, 6, 5, 29, 104, 96, 4, 96, 46, 42, 27, 28, 29, 4, 2, 182, 0, 86, 100, 54, 6, 3, 21, 4, 154, 0, 13, 21, 5] := by decide +kernel
theorem dX8_room_40 : decode cX8_room 40 = .ok (.iconst (-1), 1) := dk_2 (blk_at bk_cX8_room_40 0 rfl)
theorem dX8_room_41 : decode cX8_room 41 = .ok (.invokevirtual 86, 3) := dq_182 bk_cX8_room_40 1 rfl rfl
theorem dX8_room_44 : decode cX8_room 44 = .ok (.isub, 1) := dk_100 (blk_at bk_cX8_room_40 4 rfl)
theorem dX8_room_45 : decode cX8_room 45 = .ok (.istore 5, 2) := dq_54 bk_cX8_room_40 5 rfl rfl
theorem dX8_room_47 : decode cX8_room 47 = .ok (.aload_n 0, 1) := dk_42 (blk_at bk_cX8_room_40 7 rfl)
theorem dX8_room_48 : decode cX8_room 48 = .ok (.getfield 9, 3) := dq_180 bk_cX8_room_40 8 rfl rfl
theorem dX8_room_51 : decode cX8_room 51 = .ok (.bipush 6, 2) := dq_16 bk_cX8_room_40 11 rfl (by decide)
theorem dX8_room_53 : decode cX8_room 53 = .ok (.iconst 2, 1) := dk_5 (blk_at bk_cX8_room_40 13 rfl)
theorem dX8_room_54 : decode cX8_room 54 = .ok (.iload_n 3, 1) := dk_29 (blk_at bk_cX8_room_40 14 rfl)
theorem dX8_room_55 : decode cX8_room 55 = .ok (.imul, 1) := dk_104 (blk_at bk_cX8_room_40 15 rfl)
theorem dX8_room_56 : decode cX8_room 56 = .ok (.iadd, 1) := dk_96 (blk_at bk_cX8_room_40 16 rfl)
theorem dX8_room_57 : decode cX8_room 57 = .ok (.iconst 1, 1) := dk_4 (blk_at bk_cX8_room_40 17 rfl)
theorem dX8_room_58 : decode cX8_room 58 = .ok (.iadd, 1) := dk_96 (blk_at bk_cX8_room_40 18 rfl)
theorem dX8_room_59 : decode cX8_room 59 = .ok (.iaload, 1) := dk_46 (blk_at bk_cX8_room_40 19 rfl)
theorem dX8_room_60 : decode cX8_room 60 = .ok (.aload_n 0, 1) := dk_42 (blk_at bk_cX8_room_40 20 rfl)
theorem dX8_room_61 : decode cX8_room 61 = .ok (.iload_n 1, 1) := dk_27 (blk_at bk_cX8_room_40 21 rfl)
theorem dX8_room_62 : decode cX8_room 62 = .ok (.iload_n 2, 1) := dk_28 (blk_at bk_cX8_room_40 22 rfl)
theorem dX8_room_63 : decode cX8_room 63 = .ok (.iload_n 3, 1) := dk_29 (blk_at bk_cX8_room_40 23 rfl)
theorem dX8_room_64 : decode cX8_room 64 = .ok (.iconst 1, 1) := dk_4 (blk_at bk_cX8_room_40 24 rfl)
theorem dX8_room_65 : decode cX8_room 65 = .ok (.iconst (-1), 1) := dk_2 (blk_at bk_cX8_room_40 25 rfl)
theorem dX8_room_66 : decode cX8_room 66 = .ok (.invokevirtual 86, 3) := dq_182 bk_cX8_room_40 26 rfl rfl
theorem dX8_room_69 : decode cX8_room 69 = .ok (.isub, 1) := dk_100 (blk_at bk_cX8_room_40 29 rfl)
theorem dX8_room_70 : decode cX8_room 70 = .ok (.istore 6, 2) := dq_54 bk_cX8_room_40 30 rfl rfl
theorem dX8_room_72 : decode cX8_room 72 = .ok (.iconst 0, 1) := dk_3 (blk_at bk_cX8_room_40 32 rfl)
theorem dX8_room_73 : decode cX8_room 73 = .ok (.iload 4, 2) := dq_21 bk_cX8_room_40 33 rfl rfl
theorem dX8_room_75 : decode cX8_room 75 = .ok (.ifCond .ne 13, 3) := dq_154 bk_cX8_room_40 35 rfl (by decide)
theorem dX8_room_78 : decode cX8_room 78 = .ok (.iload 5, 2) := dq_21 bk_cX8_room_40 38 rfl rfl
theorem bk_cX8_room_80 : (cX8_room.data.toList.drop 80).take 14 = [21, 6, 184, 0, 133, 167, 0, 5, 21, 5, 184, 1, 37, 172] := by decide +kernel
theorem dX8_room_80 : decode cX8_room 80 = .ok (.iload 6, 2) := dq_21 bk_cX8_room_80 0 rfl rfl
theorem dX8_room_82 : decode cX8_room 82 = .ok (.invokestatic 133, 3) := dq_184 bk_cX8_room_80 2 rfl rfl
theorem dX8_room_85 : decode cX8_room 85 = .ok (.goto 5, 3) := dq_167 bk_cX8_room_80 5 rfl (by decide)
theorem dX8_room_88 : decode cX8_room 88 = .ok (.iload 5, 2) := dq_21 bk_cX8_room_80 8 rfl rfl
theorem dX8_room_90 : decode cX8_room 90 = .ok (.invokestatic 293, 3) := dq_184 bk_cX8_room_80 10 rfl rfl
theorem dX8_room_93 : decode cX8_room 93 = .ok (.ireturn, 1) := dk_172 (blk_at bk_cX8_room_80 13 rfl)
theorem bk_cX8_goodOf_0 : (cX8_goodOf.data.toList.drop 0).take 19 = [42, 27, 16, 8, 182, 0, 67, 42, 27, 16, 10, 182, 0, 67, 128, 184, 1, 40, 172] := by decide +kernel
theorem dX8_goodOf_0 : decode cX8_goodOf 0 = .ok (.aload_n 0, 1) := dk_42 (blk_at bk_cX8_goodOf_0 0 rfl)
theorem dX8_goodOf_1 : decode cX8_goodOf 1 = .ok (.iload_n 1, 1) := dk_27 (blk_at bk_cX8_goodOf_0 1 rfl)
theorem dX8_goodOf_2 : decode cX8_goodOf 2 = .ok (.bipush 8, 2) := dq_16 bk_cX8_goodOf_0 2 rfl (by decide)
theorem dX8_goodOf_4 : decode cX8_goodOf 4 = .ok (.invokevirtual 67, 3) := dq_182 bk_cX8_goodOf_0 4 rfl rfl
theorem dX8_goodOf_7 : decode cX8_goodOf 7 = .ok (.aload_n 0, 1) := dk_42 (blk_at bk_cX8_goodOf_0 7 rfl)
theorem dX8_goodOf_8 : decode cX8_goodOf 8 = .ok (.iload_n 1, 1) := dk_27 (blk_at bk_cX8_goodOf_0 8 rfl)
theorem dX8_goodOf_9 : decode cX8_goodOf 9 = .ok (.bipush 10, 2) := dq_16 bk_cX8_goodOf_0 9 rfl (by decide)
theorem dX8_goodOf_11 : decode cX8_goodOf 11 = .ok (.invokevirtual 67, 3) := dq_182 bk_cX8_goodOf_0 11 rfl rfl
theorem dX8_goodOf_14 : decode cX8_goodOf 14 = .ok (.ior, 1) := dk_128 (blk_at bk_cX8_goodOf_0 14 rfl)
theorem dX8_goodOf_15 : decode cX8_goodOf 15 = .ok (.invokestatic 296, 3) := dq_184 bk_cX8_goodOf_0 15 rfl rfl
theorem dX8_goodOf_18 : decode cX8_goodOf 18 = .ok (.ireturn, 1) := dk_172 (blk_at bk_cX8_goodOf_0 18 rfl)
theorem bk_cX8_use_0 : (cX8_use.data.toList.drop 0).take 38 = [42, 27, 182, 1, 17, 153, 0, 13, 28, 133, 9, 10, 184, 0, 45, 154, 0, 6, 16, 254, 172, 28, 154, 0, 14, 42, 27, 182, 0, 71, 184, 1, 40, 167, 0, 8, 42, 27] := by decide +kernel
theorem dX8_use_0 : decode cX8_use 0 = .ok (.aload_n 0, 1) := dk_42 (blk_at bk_cX8_use_0 0 rfl)
theorem dX8_use_1 : decode cX8_use 1 = .ok (.iload_n 1, 1) := dk_27 (blk_at bk_cX8_use_0 1 rfl)
theorem dX8_use_2 : decode cX8_use 2 = .ok (.invokevirtual 273, 3) := dq_182 bk_cX8_use_0 2 rfl rfl
theorem dX8_use_5 : decode cX8_use 5 = .ok (.ifCond .eq 13, 3) := dq_153 bk_cX8_use_0 5 rfl (by decide)
theorem dX8_use_8 : decode cX8_use 8 = .ok (.iload_n 2, 1) := dk_28 (blk_at bk_cX8_use_0 8 rfl)
theorem dX8_use_9 : decode cX8_use 9 = .ok (.i2l, 1) := dk_133 (blk_at bk_cX8_use_0 9 rfl)
theorem dX8_use_10 : decode cX8_use 10 = .ok (.lconst 0, 1) := dk_9 (blk_at bk_cX8_use_0 10 rfl)
theorem dX8_use_11 : decode cX8_use 11 = .ok (.lconst 1, 1) := dk_10 (blk_at bk_cX8_use_0 11 rfl)
theorem dX8_use_12 : decode cX8_use 12 = .ok (.invokestatic 45, 3) := dq_184 bk_cX8_use_0 12 rfl rfl
theorem dX8_use_15 : decode cX8_use 15 = .ok (.ifCond .ne 6, 3) := dq_154 bk_cX8_use_0 15 rfl (by decide)
theorem dX8_use_18 : decode cX8_use 18 = .ok (.bipush (-2), 2) := dq_16 bk_cX8_use_0 18 rfl (by decide)
theorem dX8_use_20 : decode cX8_use 20 = .ok (.ireturn, 1) := dk_172 (blk_at bk_cX8_use_0 20 rfl)
theorem dX8_use_21 : decode cX8_use 21 = .ok (.iload_n 2, 1) := dk_28 (blk_at bk_cX8_use_0 21 rfl)
theorem dX8_use_22 : decode cX8_use 22 = .ok (.ifCond .ne 14, 3) := dq_154 bk_cX8_use_0 22 rfl (by decide)
theorem dX8_use_25 : decode cX8_use 25 = .ok (.aload_n 0, 1) := dk_42 (blk_at bk_cX8_use_0 25 rfl)
theorem dX8_use_26 : decode cX8_use 26 = .ok (.iload_n 1, 1) := dk_27 (blk_at bk_cX8_use_0 26 rfl)
theorem dX8_use_27 : decode cX8_use 27 = .ok (.invokevirtual 71, 3) := dq_182 bk_cX8_use_0 27 rfl rfl
theorem dX8_use_30 : decode cX8_use 30 = .ok (.invokestatic 296, 3) := dq_184 bk_cX8_use_0 30 rfl rfl
theorem dX8_use_33 : decode cX8_use 33 = .ok (.goto 8, 3) := dq_167 bk_cX8_use_0 33 rfl (by decide)
theorem dX8_use_36 : decode cX8_use 36 = .ok (.aload_n 0, 1) := dk_42 (blk_at bk_cX8_use_0 36 rfl)
theorem dX8_use_37 : decode cX8_use 37 = .ok (.iload_n 1, 1) := dk_27 (blk_at bk_cX8_use_0 37 rfl)
theorem bk_cX8_use_38 : (cX8_use.data.toList.drop 38).take 4 = [182, 1, 43, 172] := by decide +kernel
theorem dX8_use_38 : decode cX8_use 38 = .ok (.invokevirtual 299, 3) := dq_182 bk_cX8_use_38 0 rfl rfl
theorem dX8_use_41 : decode cX8_use 41 = .ok (.ireturn, 1) := dk_172 (blk_at bk_cX8_use_38 3 rfl)
theorem bk_cX8_isKept_0 : (cX8_isKept.data.toList.drop 0).take 34 = [42, 27, 182, 0, 71, 184, 1, 40, 62, 29, 158, 0, 22, 8, 42, 27, 182, 1, 43, 28, 96, 104, 7, 29, 104, 161, 0, 7, 4, 167, 0, 4, 3, 172] := by decide +kernel
theorem dX8_isKept_0 : decode cX8_isKept 0 = .ok (.aload_n 0, 1) := dk_42 (blk_at bk_cX8_isKept_0 0 rfl)
theorem dX8_isKept_1 : decode cX8_isKept 1 = .ok (.iload_n 1, 1) := dk_27 (blk_at bk_cX8_isKept_0 1 rfl)
theorem dX8_isKept_2 : decode cX8_isKept 2 = .ok (.invokevirtual 71, 3) := dq_182 bk_cX8_isKept_0 2 rfl rfl
theorem dX8_isKept_5 : decode cX8_isKept 5 = .ok (.invokestatic 296, 3) := dq_184 bk_cX8_isKept_0 5 rfl rfl
theorem dX8_isKept_8 : decode cX8_isKept 8 = .ok (.istore_n 3, 1) := dk_62 (blk_at bk_cX8_isKept_0 8 rfl)
theorem dX8_isKept_9 : decode cX8_isKept 9 = .ok (.iload_n 3, 1) := dk_29 (blk_at bk_cX8_isKept_0 9 rfl)
theorem dX8_isKept_10 : decode cX8_isKept 10 = .ok (.ifCond .le 22, 3) := dq_158 bk_cX8_isKept_0 10 rfl (by decide)
theorem dX8_isKept_13 : decode cX8_isKept 13 = .ok (.iconst 5, 1) := dk_8 (blk_at bk_cX8_isKept_0 13 rfl)
theorem dX8_isKept_14 : decode cX8_isKept 14 = .ok (.aload_n 0, 1) := dk_42 (blk_at bk_cX8_isKept_0 14 rfl)
theorem dX8_isKept_15 : decode cX8_isKept 15 = .ok (.iload_n 1, 1) := dk_27 (blk_at bk_cX8_isKept_0 15 rfl)
theorem dX8_isKept_16 : decode cX8_isKept 16 = .ok (.invokevirtual 299, 3) := dq_182 bk_cX8_isKept_0 16 rfl rfl
theorem dX8_isKept_19 : decode cX8_isKept 19 = .ok (.iload_n 2, 1) := dk_28 (blk_at bk_cX8_isKept_0 19 rfl)
theorem dX8_isKept_20 : decode cX8_isKept 20 = .ok (.iadd, 1) := dk_96 (blk_at bk_cX8_isKept_0 20 rfl)
theorem dX8_isKept_21 : decode cX8_isKept 21 = .ok (.imul, 1) := dk_104 (blk_at bk_cX8_isKept_0 21 rfl)
theorem dX8_isKept_22 : decode cX8_isKept 22 = .ok (.iconst 4, 1) := dk_7 (blk_at bk_cX8_isKept_0 22 rfl)
theorem dX8_isKept_23 : decode cX8_isKept 23 = .ok (.iload_n 3, 1) := dk_29 (blk_at bk_cX8_isKept_0 23 rfl)
theorem dX8_isKept_24 : decode cX8_isKept 24 = .ok (.imul, 1) := dk_104 (blk_at bk_cX8_isKept_0 24 rfl)
theorem dX8_isKept_25 : decode cX8_isKept 25 = .ok (.if_icmp .lt 7, 3) := dq_161 bk_cX8_isKept_0 25 rfl (by decide)
theorem dX8_isKept_28 : decode cX8_isKept 28 = .ok (.iconst 1, 1) := dk_4 (blk_at bk_cX8_isKept_0 28 rfl)
theorem dX8_isKept_29 : decode cX8_isKept 29 = .ok (.goto 4, 3) := dq_167 bk_cX8_isKept_0 29 rfl (by decide)
theorem dX8_isKept_32 : decode cX8_isKept 32 = .ok (.iconst 0, 1) := dk_3 (blk_at bk_cX8_isKept_0 32 rfl)
theorem dX8_isKept_33 : decode cX8_isKept 33 = .ok (.ireturn, 1) := dk_172 (blk_at bk_cX8_isKept_0 33 rfl)
theorem bk_cX8_standsOf_0 : (cX8_standsOf.data.toList.drop 0).take 37 = [42, 27, 3, 182, 1, 46, 153, 0, 7, 4, 167, 0, 26, 42, 27, 42, 27, 16, 7, 182, 0, 67, 184, 1, 40, 182, 1, 46, 153, 0, 7, 3, 167, 0, 4, 5, 172] := by decide +kernel
theorem dX8_standsOf_0 : decode cX8_standsOf 0 = .ok (.aload_n 0, 1) := dk_42 (blk_at bk_cX8_standsOf_0 0 rfl)
theorem dX8_standsOf_1 : decode cX8_standsOf 1 = .ok (.iload_n 1, 1) := dk_27 (blk_at bk_cX8_standsOf_0 1 rfl)
theorem dX8_standsOf_2 : decode cX8_standsOf 2 = .ok (.iconst 0, 1) := dk_3 (blk_at bk_cX8_standsOf_0 2 rfl)
theorem dX8_standsOf_3 : decode cX8_standsOf 3 = .ok (.invokevirtual 302, 3) := dq_182 bk_cX8_standsOf_0 3 rfl rfl
theorem dX8_standsOf_6 : decode cX8_standsOf 6 = .ok (.ifCond .eq 7, 3) := dq_153 bk_cX8_standsOf_0 6 rfl (by decide)
theorem dX8_standsOf_9 : decode cX8_standsOf 9 = .ok (.iconst 1, 1) := dk_4 (blk_at bk_cX8_standsOf_0 9 rfl)
theorem dX8_standsOf_10 : decode cX8_standsOf 10 = .ok (.goto 26, 3) := dq_167 bk_cX8_standsOf_0 10 rfl (by decide)
theorem dX8_standsOf_13 : decode cX8_standsOf 13 = .ok (.aload_n 0, 1) := dk_42 (blk_at bk_cX8_standsOf_0 13 rfl)
theorem dX8_standsOf_14 : decode cX8_standsOf 14 = .ok (.iload_n 1, 1) := dk_27 (blk_at bk_cX8_standsOf_0 14 rfl)
theorem dX8_standsOf_15 : decode cX8_standsOf 15 = .ok (.aload_n 0, 1) := dk_42 (blk_at bk_cX8_standsOf_0 15 rfl)
theorem dX8_standsOf_16 : decode cX8_standsOf 16 = .ok (.iload_n 1, 1) := dk_27 (blk_at bk_cX8_standsOf_0 16 rfl)
theorem dX8_standsOf_17 : decode cX8_standsOf 17 = .ok (.bipush 7, 2) := dq_16 bk_cX8_standsOf_0 17 rfl (by decide)
theorem dX8_standsOf_19 : decode cX8_standsOf 19 = .ok (.invokevirtual 67, 3) := dq_182 bk_cX8_standsOf_0 19 rfl rfl
theorem dX8_standsOf_22 : decode cX8_standsOf 22 = .ok (.invokestatic 296, 3) := dq_184 bk_cX8_standsOf_0 22 rfl rfl
theorem dX8_standsOf_25 : decode cX8_standsOf 25 = .ok (.invokevirtual 302, 3) := dq_182 bk_cX8_standsOf_0 25 rfl rfl
theorem dX8_standsOf_28 : decode cX8_standsOf 28 = .ok (.ifCond .eq 7, 3) := dq_153 bk_cX8_standsOf_0 28 rfl (by decide)
theorem dX8_standsOf_31 : decode cX8_standsOf 31 = .ok (.iconst 0, 1) := dk_3 (blk_at bk_cX8_standsOf_0 31 rfl)
theorem dX8_standsOf_32 : decode cX8_standsOf 32 = .ok (.goto 4, 3) := dq_167 bk_cX8_standsOf_0 32 rfl (by decide)
theorem dX8_standsOf_35 : decode cX8_standsOf 35 = .ok (.iconst 2, 1) := dk_5 (blk_at bk_cX8_standsOf_0 35 rfl)
theorem dX8_standsOf_36 : decode cX8_standsOf 36 = .ok (.ireturn, 1) := dk_172 (blk_at bk_cX8_standsOf_0 36 rfl)
theorem bk_cX8_stands_0 : (cX8_stands.data.toList.drop 0).take 19 = [42, 27, 182, 1, 17, 153, 0, 11, 42, 27, 182, 1, 49, 167, 0, 5, 16, 254, 172] := by decide +kernel
theorem dX8_stands_0 : decode cX8_stands 0 = .ok (.aload_n 0, 1) := dk_42 (blk_at bk_cX8_stands_0 0 rfl)
theorem dX8_stands_1 : decode cX8_stands 1 = .ok (.iload_n 1, 1) := dk_27 (blk_at bk_cX8_stands_0 1 rfl)
theorem dX8_stands_2 : decode cX8_stands 2 = .ok (.invokevirtual 273, 3) := dq_182 bk_cX8_stands_0 2 rfl rfl
theorem dX8_stands_5 : decode cX8_stands 5 = .ok (.ifCond .eq 11, 3) := dq_153 bk_cX8_stands_0 5 rfl (by decide)
theorem dX8_stands_8 : decode cX8_stands 8 = .ok (.aload_n 0, 1) := dk_42 (blk_at bk_cX8_stands_0 8 rfl)
theorem dX8_stands_9 : decode cX8_stands 9 = .ok (.iload_n 1, 1) := dk_27 (blk_at bk_cX8_stands_0 9 rfl)
theorem dX8_stands_10 : decode cX8_stands 10 = .ok (.invokevirtual 305, 3) := dq_182 bk_cX8_stands_0 10 rfl rfl
theorem dX8_stands_13 : decode cX8_stands 13 = .ok (.goto 5, 3) := dq_167 bk_cX8_stands_0 13 rfl (by decide)
theorem dX8_stands_16 : decode cX8_stands 16 = .ok (.bipush (-2), 2) := dq_16 bk_cX8_stands_0 16 rfl (by decide)
theorem dX8_stands_18 : decode cX8_stands 18 = .ok (.ireturn, 1) := dk_172 (blk_at bk_cX8_stands_0 18 rfl)
theorem bk_cX8_spareOf_0 : (cX8_spareOf.data.toList.drop 0).take 38 = [42, 27, 16, 7, 182, 0, 67, 184, 1, 40, 61, 28, 155, 0, 29, 42, 27, 42, 27, 16, 7, 182, 0, 67, 184, 1, 40, 28, 100, 182, 1, 46, 154, 0, 9, 132, 2, 255] := by decide +kernel
theorem dX8_spareOf_0 : decode cX8_spareOf 0 = .ok (.aload_n 0, 1) := dk_42 (blk_at bk_cX8_spareOf_0 0 rfl)
theorem dX8_spareOf_1 : decode cX8_spareOf 1 = .ok (.iload_n 1, 1) := dk_27 (blk_at bk_cX8_spareOf_0 1 rfl)
theorem dX8_spareOf_2 : decode cX8_spareOf 2 = .ok (.bipush 7, 2) := dq_16 bk_cX8_spareOf_0 2 rfl (by decide)
theorem dX8_spareOf_4 : decode cX8_spareOf 4 = .ok (.invokevirtual 67, 3) := dq_182 bk_cX8_spareOf_0 4 rfl rfl
theorem dX8_spareOf_7 : decode cX8_spareOf 7 = .ok (.invokestatic 296, 3) := dq_184 bk_cX8_spareOf_0 7 rfl rfl
theorem dX8_spareOf_10 : decode cX8_spareOf 10 = .ok (.istore_n 2, 1) := dk_61 (blk_at bk_cX8_spareOf_0 10 rfl)
theorem dX8_spareOf_11 : decode cX8_spareOf 11 = .ok (.iload_n 2, 1) := dk_28 (blk_at bk_cX8_spareOf_0 11 rfl)
theorem dX8_spareOf_12 : decode cX8_spareOf 12 = .ok (.ifCond .lt 29, 3) := dq_155 bk_cX8_spareOf_0 12 rfl (by decide)
theorem dX8_spareOf_15 : decode cX8_spareOf 15 = .ok (.aload_n 0, 1) := dk_42 (blk_at bk_cX8_spareOf_0 15 rfl)
theorem dX8_spareOf_16 : decode cX8_spareOf 16 = .ok (.iload_n 1, 1) := dk_27 (blk_at bk_cX8_spareOf_0 16 rfl)
theorem dX8_spareOf_17 : decode cX8_spareOf 17 = .ok (.aload_n 0, 1) := dk_42 (blk_at bk_cX8_spareOf_0 17 rfl)
theorem dX8_spareOf_18 : decode cX8_spareOf 18 = .ok (.iload_n 1, 1) := dk_27 (blk_at bk_cX8_spareOf_0 18 rfl)
theorem dX8_spareOf_19 : decode cX8_spareOf 19 = .ok (.bipush 7, 2) := dq_16 bk_cX8_spareOf_0 19 rfl (by decide)
theorem dX8_spareOf_21 : decode cX8_spareOf 21 = .ok (.invokevirtual 67, 3) := dq_182 bk_cX8_spareOf_0 21 rfl rfl
theorem dX8_spareOf_24 : decode cX8_spareOf 24 = .ok (.invokestatic 296, 3) := dq_184 bk_cX8_spareOf_0 24 rfl rfl
theorem dX8_spareOf_27 : decode cX8_spareOf 27 = .ok (.iload_n 2, 1) := dk_28 (blk_at bk_cX8_spareOf_0 27 rfl)
theorem dX8_spareOf_28 : decode cX8_spareOf 28 = .ok (.isub, 1) := dk_100 (blk_at bk_cX8_spareOf_0 28 rfl)
theorem dX8_spareOf_29 : decode cX8_spareOf 29 = .ok (.invokevirtual 302, 3) := dq_182 bk_cX8_spareOf_0 29 rfl rfl
theorem dX8_spareOf_32 : decode cX8_spareOf 32 = .ok (.ifCond .ne 9, 3) := dq_154 bk_cX8_spareOf_0 32 rfl (by decide)
theorem dX8_spareOf_35 : decode cX8_spareOf 35 = .ok (.iinc 2 (-1), 3) := dq_132 bk_cX8_spareOf_0 35 rfl rfl (by decide)
theorem bk_cX8_spareOf_38 : (cX8_spareOf.data.toList.drop 38).take 5 = [167, 255, 229, 28, 172] := by decide +kernel
theorem dX8_spareOf_38 : decode cX8_spareOf 38 = .ok (.goto (-27), 3) := dq_167 bk_cX8_spareOf_38 0 rfl (by decide)
theorem dX8_spareOf_41 : decode cX8_spareOf 41 = .ok (.iload_n 2, 1) := dk_28 (blk_at bk_cX8_spareOf_38 3 rfl)
theorem dX8_spareOf_42 : decode cX8_spareOf 42 = .ok (.ireturn, 1) := dk_172 (blk_at bk_cX8_spareOf_38 4 rfl)
theorem bk_cX8_spare_0 : (cX8_spare.data.toList.drop 0).take 19 = [42, 27, 182, 1, 17, 153, 0, 11, 42, 27, 182, 1, 52, 167, 0, 5, 16, 254, 172] := by decide +kernel
theorem dX8_spare_0 : decode cX8_spare 0 = .ok (.aload_n 0, 1) := dk_42 (blk_at bk_cX8_spare_0 0 rfl)
theorem dX8_spare_1 : decode cX8_spare 1 = .ok (.iload_n 1, 1) := dk_27 (blk_at bk_cX8_spare_0 1 rfl)
theorem dX8_spare_2 : decode cX8_spare 2 = .ok (.invokevirtual 273, 3) := dq_182 bk_cX8_spare_0 2 rfl rfl
theorem dX8_spare_5 : decode cX8_spare 5 = .ok (.ifCond .eq 11, 3) := dq_153 bk_cX8_spare_0 5 rfl (by decide)
theorem dX8_spare_8 : decode cX8_spare 8 = .ok (.aload_n 0, 1) := dk_42 (blk_at bk_cX8_spare_0 8 rfl)
theorem dX8_spare_9 : decode cX8_spare 9 = .ok (.iload_n 1, 1) := dk_27 (blk_at bk_cX8_spare_0 9 rfl)
theorem dX8_spare_10 : decode cX8_spare 10 = .ok (.invokevirtual 308, 3) := dq_182 bk_cX8_spare_0 10 rfl rfl
theorem dX8_spare_13 : decode cX8_spare 13 = .ok (.goto 5, 3) := dq_167 bk_cX8_spare_0 13 rfl (by decide)
theorem dX8_spare_16 : decode cX8_spare 16 = .ok (.bipush (-2), 2) := dq_16 bk_cX8_spare_0 16 rfl (by decide)
theorem dX8_spare_18 : decode cX8_spare 18 = .ok (.ireturn, 1) := dk_172 (blk_at bk_cX8_spare_0 18 rfl)
theorem bk_cX8_rate_0 : (cX8_rate.data.toList.drop 0).take 39 = [42, 27, 182, 1, 17, 154, 0, 6, 16, 254, 172, 42, 27, 182, 0, 71, 184, 1, 40, 61, 28, 154, 0, 7, 2, 167, 0, 13, 16, 100, 42, 27, 182, 1, 43, 104, 28, 108, 172] := by decide +kernel
theorem dX8_rate_0 : decode cX8_rate 0 = .ok (.aload_n 0, 1) := dk_42 (blk_at bk_cX8_rate_0 0 rfl)
theorem dX8_rate_1 : decode cX8_rate 1 = .ok (.iload_n 1, 1) := dk_27 (blk_at bk_cX8_rate_0 1 rfl)
theorem dX8_rate_2 : decode cX8_rate 2 = .ok (.invokevirtual 273, 3) := dq_182 bk_cX8_rate_0 2 rfl rfl
theorem dX8_rate_5 : decode cX8_rate 5 = .ok (.ifCond .ne 6, 3) := dq_154 bk_cX8_rate_0 5 rfl (by decide)
theorem dX8_rate_8 : decode cX8_rate 8 = .ok (.bipush (-2), 2) := dq_16 bk_cX8_rate_0 8 rfl (by decide)
theorem dX8_rate_10 : decode cX8_rate 10 = .ok (.ireturn, 1) := dk_172 (blk_at bk_cX8_rate_0 10 rfl)
theorem dX8_rate_11 : decode cX8_rate 11 = .ok (.aload_n 0, 1) := dk_42 (blk_at bk_cX8_rate_0 11 rfl)
theorem dX8_rate_12 : decode cX8_rate 12 = .ok (.iload_n 1, 1) := dk_27 (blk_at bk_cX8_rate_0 12 rfl)
theorem dX8_rate_13 : decode cX8_rate 13 = .ok (.invokevirtual 71, 3) := dq_182 bk_cX8_rate_0 13 rfl rfl
theorem dX8_rate_16 : decode cX8_rate 16 = .ok (.invokestatic 296, 3) := dq_184 bk_cX8_rate_0 16 rfl rfl
theorem dX8_rate_19 : decode cX8_rate 19 = .ok (.istore_n 2, 1) := dk_61 (blk_at bk_cX8_rate_0 19 rfl)
theorem dX8_rate_20 : decode cX8_rate 20 = .ok (.iload_n 2, 1) := dk_28 (blk_at bk_cX8_rate_0 20 rfl)
theorem dX8_rate_21 : decode cX8_rate 21 = .ok (.ifCond .ne 7, 3) := dq_154 bk_cX8_rate_0 21 rfl (by decide)
theorem dX8_rate_24 : decode cX8_rate 24 = .ok (.iconst (-1), 1) := dk_2 (blk_at bk_cX8_rate_0 24 rfl)
theorem dX8_rate_25 : decode cX8_rate 25 = .ok (.goto 13, 3) := dq_167 bk_cX8_rate_0 25 rfl (by decide)
theorem dX8_rate_28 : decode cX8_rate 28 = .ok (.bipush 100, 2) := dq_16 bk_cX8_rate_0 28 rfl (by decide)
theorem dX8_rate_30 : decode cX8_rate 30 = .ok (.aload_n 0, 1) := dk_42 (blk_at bk_cX8_rate_0 30 rfl)
theorem dX8_rate_31 : decode cX8_rate 31 = .ok (.iload_n 1, 1) := dk_27 (blk_at bk_cX8_rate_0 31 rfl)
theorem dX8_rate_32 : decode cX8_rate 32 = .ok (.invokevirtual 299, 3) := dq_182 bk_cX8_rate_0 32 rfl rfl
theorem dX8_rate_35 : decode cX8_rate 35 = .ok (.imul, 1) := dk_104 (blk_at bk_cX8_rate_0 35 rfl)
theorem dX8_rate_36 : decode cX8_rate 36 = .ok (.iload_n 2, 1) := dk_28 (blk_at bk_cX8_rate_0 36 rfl)
theorem dX8_rate_37 : decode cX8_rate 37 = .ok (.idiv, 1) := dk_108 (blk_at bk_cX8_rate_0 37 rfl)
theorem dX8_rate_38 : decode cX8_rate 38 = .ok (.ireturn, 1) := dk_172 (blk_at bk_cX8_rate_0 38 rfl)
theorem bk_cX8_longest_0 : (cX8_longest.data.toList.drop 0).take 38 = [42, 27, 182, 1, 17, 154, 0, 6, 16, 254, 172, 3, 61, 3, 62, 3, 54, 4, 21, 4, 42, 180, 0, 9, 3, 46, 162, 0, 38, 42, 27, 16, 9, 182, 0, 67, 21, 4] := by decide +kernel
theorem dX8_longest_0 : decode cX8_longest 0 = .ok (.aload_n 0, 1) := dk_42 (blk_at bk_cX8_longest_0 0 rfl)
theorem dX8_longest_1 : decode cX8_longest 1 = .ok (.iload_n 1, 1) := dk_27 (blk_at bk_cX8_longest_0 1 rfl)
theorem dX8_longest_2 : decode cX8_longest 2 = .ok (.invokevirtual 273, 3) := dq_182 bk_cX8_longest_0 2 rfl rfl
theorem dX8_longest_5 : decode cX8_longest 5 = .ok (.ifCond .ne 6, 3) := dq_154 bk_cX8_longest_0 5 rfl (by decide)
theorem dX8_longest_8 : decode cX8_longest 8 = .ok (.bipush (-2), 2) := dq_16 bk_cX8_longest_0 8 rfl (by decide)
theorem dX8_longest_10 : decode cX8_longest 10 = .ok (.ireturn, 1) := dk_172 (blk_at bk_cX8_longest_0 10 rfl)
theorem dX8_longest_11 : decode cX8_longest 11 = .ok (.iconst 0, 1) := dk_3 (blk_at bk_cX8_longest_0 11 rfl)
theorem dX8_longest_12 : decode cX8_longest 12 = .ok (.istore_n 2, 1) := dk_61 (blk_at bk_cX8_longest_0 12 rfl)
theorem dX8_longest_13 : decode cX8_longest 13 = .ok (.iconst 0, 1) := dk_3 (blk_at bk_cX8_longest_0 13 rfl)
theorem dX8_longest_14 : decode cX8_longest 14 = .ok (.istore_n 3, 1) := dk_62 (blk_at bk_cX8_longest_0 14 rfl)
theorem dX8_longest_15 : decode cX8_longest 15 = .ok (.iconst 0, 1) := dk_3 (blk_at bk_cX8_longest_0 15 rfl)
theorem dX8_longest_16 : decode cX8_longest 16 = .ok (.istore 4, 2) := dq_54 bk_cX8_longest_0 16 rfl rfl
theorem dX8_longest_18 : decode cX8_longest 18 = .ok (.iload 4, 2) := dq_21 bk_cX8_longest_0 18 rfl rfl
theorem dX8_longest_20 : decode cX8_longest 20 = .ok (.aload_n 0, 1) := dk_42 (blk_at bk_cX8_longest_0 20 rfl)
theorem dX8_longest_21 : decode cX8_longest 21 = .ok (.getfield 9, 3) := dq_180 bk_cX8_longest_0 21 rfl rfl
theorem dX8_longest_24 : decode cX8_longest 24 = .ok (.iconst 0, 1) := dk_3 (blk_at bk_cX8_longest_0 24 rfl)
theorem dX8_longest_25 : decode cX8_longest 25 = .ok (.iaload, 1) := dk_46 (blk_at bk_cX8_longest_0 25 rfl)
theorem dX8_longest_26 : decode cX8_longest 26 = .ok (.if_icmp .ge 38, 3) := dq_162 bk_cX8_longest_0 26 rfl (by decide)
theorem dX8_longest_29 : decode cX8_longest 29 = .ok (.aload_n 0, 1) := dk_42 (blk_at bk_cX8_longest_0 29 rfl)
theorem dX8_longest_30 : decode cX8_longest 30 = .ok (.iload_n 1, 1) := dk_27 (blk_at bk_cX8_longest_0 30 rfl)
theorem dX8_longest_31 : decode cX8_longest 31 = .ok (.bipush 9, 2) := dq_16 bk_cX8_longest_0 31 rfl (by decide)
theorem dX8_longest_33 : decode cX8_longest 33 = .ok (.invokevirtual 67, 3) := dq_182 bk_cX8_longest_0 33 rfl rfl
theorem dX8_longest_36 : decode cX8_longest 36 = .ok (.iload 4, 2) := dq_21 bk_cX8_longest_0 36 rfl rfl
theorem bk_cX8_longest_38 : (cX8_longest.data.toList.drop 38).take 28 = [184, 0, 75, 153, 0, 9, 29, 4, 96, 167, 0, 4, 3, 62, 28, 29, 184, 1, 37, 61, 132, 4, 1, 167, 255, 213, 28, 172] := by decide +kernel
theorem dX8_longest_38 : decode cX8_longest 38 = .ok (.invokestatic 75, 3) := dq_184 bk_cX8_longest_38 0 rfl rfl
theorem dX8_longest_41 : decode cX8_longest 41 = .ok (.ifCond .eq 9, 3) := dq_153 bk_cX8_longest_38 3 rfl (by decide)
theorem dX8_longest_44 : decode cX8_longest 44 = .ok (.iload_n 3, 1) := dk_29 (blk_at bk_cX8_longest_38 6 rfl)
theorem dX8_longest_45 : decode cX8_longest 45 = .ok (.iconst 1, 1) := dk_4 (blk_at bk_cX8_longest_38 7 rfl)
theorem dX8_longest_46 : decode cX8_longest 46 = .ok (.iadd, 1) := dk_96 (blk_at bk_cX8_longest_38 8 rfl)
theorem dX8_longest_47 : decode cX8_longest 47 = .ok (.goto 4, 3) := dq_167 bk_cX8_longest_38 9 rfl (by decide)
theorem dX8_longest_50 : decode cX8_longest 50 = .ok (.iconst 0, 1) := dk_3 (blk_at bk_cX8_longest_38 12 rfl)
theorem dX8_longest_51 : decode cX8_longest 51 = .ok (.istore_n 3, 1) := dk_62 (blk_at bk_cX8_longest_38 13 rfl)
theorem dX8_longest_52 : decode cX8_longest 52 = .ok (.iload_n 2, 1) := dk_28 (blk_at bk_cX8_longest_38 14 rfl)
theorem dX8_longest_53 : decode cX8_longest 53 = .ok (.iload_n 3, 1) := dk_29 (blk_at bk_cX8_longest_38 15 rfl)
theorem dX8_longest_54 : decode cX8_longest 54 = .ok (.invokestatic 293, 3) := dq_184 bk_cX8_longest_38 16 rfl rfl
theorem dX8_longest_57 : decode cX8_longest 57 = .ok (.istore_n 2, 1) := dk_61 (blk_at bk_cX8_longest_38 19 rfl)
theorem dX8_longest_58 : decode cX8_longest 58 = .ok (.iinc 4 1, 3) := dq_132 bk_cX8_longest_38 20 rfl rfl (by decide)
theorem dX8_longest_61 : decode cX8_longest 61 = .ok (.goto (-43), 3) := dq_167 bk_cX8_longest_38 23 rfl (by decide)
theorem dX8_longest_64 : decode cX8_longest 64 = .ok (.iload_n 2, 1) := dk_28 (blk_at bk_cX8_longest_38 26 rfl)
theorem dX8_longest_65 : decode cX8_longest 65 = .ok (.ireturn, 1) := dk_172 (blk_at bk_cX8_longest_38 27 rfl)
theorem bk_cX8_of_0 : (cX8_of.data.toList.drop 0).take 38 = [42, 27, 182, 1, 9, 153, 0, 17, 28, 133, 20, 1, 55, 20, 0, 53, 184, 0, 45, 154, 0, 6, 16, 254, 172, 3, 62, 3, 54, 4, 21, 4, 42, 180, 0, 9, 5, 46] := by decide +kernel
theorem dX8_of_0 : decode cX8_of 0 = .ok (.aload_n 0, 1) := dk_42 (blk_at bk_cX8_of_0 0 rfl)
theorem dX8_of_1 : decode cX8_of 1 = .ok (.iload_n 1, 1) := dk_27 (blk_at bk_cX8_of_0 1 rfl)
theorem dX8_of_2 : decode cX8_of 2 = .ok (.invokevirtual 265, 3) := dq_182 bk_cX8_of_0 2 rfl rfl
theorem dX8_of_5 : decode cX8_of 5 = .ok (.ifCond .eq 17, 3) := dq_153 bk_cX8_of_0 5 rfl (by decide)
theorem dX8_of_8 : decode cX8_of 8 = .ok (.iload_n 2, 1) := dk_28 (blk_at bk_cX8_of_0 8 rfl)
theorem dX8_of_9 : decode cX8_of 9 = .ok (.i2l, 1) := dk_133 (blk_at bk_cX8_of_0 9 rfl)
theorem dX8_of_10 : decode cX8_of 10 = .ok (.ldc2_w 311, 3) := dq_20 bk_cX8_of_0 10 rfl rfl
theorem dX8_of_13 : decode cX8_of 13 = .ok (.ldc2_w 53, 3) := dq_20 bk_cX8_of_0 13 rfl rfl
theorem dX8_of_16 : decode cX8_of 16 = .ok (.invokestatic 45, 3) := dq_184 bk_cX8_of_0 16 rfl rfl
theorem dX8_of_19 : decode cX8_of 19 = .ok (.ifCond .ne 6, 3) := dq_154 bk_cX8_of_0 19 rfl (by decide)
theorem dX8_of_22 : decode cX8_of 22 = .ok (.bipush (-2), 2) := dq_16 bk_cX8_of_0 22 rfl (by decide)
theorem dX8_of_24 : decode cX8_of 24 = .ok (.ireturn, 1) := dk_172 (blk_at bk_cX8_of_0 24 rfl)
theorem dX8_of_25 : decode cX8_of 25 = .ok (.iconst 0, 1) := dk_3 (blk_at bk_cX8_of_0 25 rfl)
theorem dX8_of_26 : decode cX8_of 26 = .ok (.istore_n 3, 1) := dk_62 (blk_at bk_cX8_of_0 26 rfl)
theorem dX8_of_27 : decode cX8_of 27 = .ok (.iconst 0, 1) := dk_3 (blk_at bk_cX8_of_0 27 rfl)
theorem dX8_of_28 : decode cX8_of 28 = .ok (.istore 4, 2) := dq_54 bk_cX8_of_0 28 rfl rfl
theorem dX8_of_30 : decode cX8_of 30 = .ok (.iload 4, 2) := dq_21 bk_cX8_of_0 30 rfl rfl
theorem dX8_of_32 : decode cX8_of 32 = .ok (.aload_n 0, 1) := dk_42 (blk_at bk_cX8_of_0 32 rfl)
theorem dX8_of_33 : decode cX8_of 33 = .ok (.getfield 9, 3) := dq_180 bk_cX8_of_0 33 rfl rfl
theorem dX8_of_36 : decode cX8_of 36 = .ok (.iconst 2, 1) := dk_5 (blk_at bk_cX8_of_0 36 rfl)
theorem dX8_of_37 : decode cX8_of 37 = .ok (.iaload, 1) := dk_46 (blk_at bk_cX8_of_0 37 rfl)
theorem bk_cX8_of_38 : (cX8_of.data.toList.drop 38).take 40 = [162, 0, 47, 29, 42, 21, 4, 3, 182, 0, 67, 27, 160, 0, 26, 28, 2, 159, 0, 14, 42, 21, 4, 4, 182, 0, 67, 28, 160, 0, 10, 4, 21, 4, 120, 167, 0, 4, 3, 128] := by decide +kernel
theorem dX8_of_38 : decode cX8_of 38 = .ok (.if_icmp .ge 47, 3) := dq_162 bk_cX8_of_38 0 rfl (by decide)
theorem dX8_of_41 : decode cX8_of 41 = .ok (.iload_n 3, 1) := dk_29 (blk_at bk_cX8_of_38 3 rfl)
theorem dX8_of_42 : decode cX8_of 42 = .ok (.aload_n 0, 1) := dk_42 (blk_at bk_cX8_of_38 4 rfl)
theorem dX8_of_43 : decode cX8_of 43 = .ok (.iload 4, 2) := dq_21 bk_cX8_of_38 5 rfl rfl
theorem dX8_of_45 : decode cX8_of 45 = .ok (.iconst 0, 1) := dk_3 (blk_at bk_cX8_of_38 7 rfl)
theorem dX8_of_46 : decode cX8_of 46 = .ok (.invokevirtual 67, 3) := dq_182 bk_cX8_of_38 8 rfl rfl
theorem dX8_of_49 : decode cX8_of 49 = .ok (.iload_n 1, 1) := dk_27 (blk_at bk_cX8_of_38 11 rfl)
theorem dX8_of_50 : decode cX8_of 50 = .ok (.if_icmp .ne 26, 3) := dq_160 bk_cX8_of_38 12 rfl (by decide)
theorem dX8_of_53 : decode cX8_of 53 = .ok (.iload_n 2, 1) := dk_28 (blk_at bk_cX8_of_38 15 rfl)
theorem dX8_of_54 : decode cX8_of 54 = .ok (.iconst (-1), 1) := dk_2 (blk_at bk_cX8_of_38 16 rfl)
theorem dX8_of_55 : decode cX8_of 55 = .ok (.if_icmp .eq 14, 3) := dq_159 bk_cX8_of_38 17 rfl (by decide)
theorem dX8_of_58 : decode cX8_of 58 = .ok (.aload_n 0, 1) := dk_42 (blk_at bk_cX8_of_38 20 rfl)
theorem dX8_of_59 : decode cX8_of 59 = .ok (.iload 4, 2) := dq_21 bk_cX8_of_38 21 rfl rfl
theorem dX8_of_61 : decode cX8_of 61 = .ok (.iconst 1, 1) := dk_4 (blk_at bk_cX8_of_38 23 rfl)
theorem dX8_of_62 : decode cX8_of 62 = .ok (.invokevirtual 67, 3) := dq_182 bk_cX8_of_38 24 rfl rfl
theorem dX8_of_65 : decode cX8_of 65 = .ok (.iload_n 2, 1) := dk_28 (blk_at bk_cX8_of_38 27 rfl)
theorem dX8_of_66 : decode cX8_of 66 = .ok (.if_icmp .ne 10, 3) := dq_160 bk_cX8_of_38 28 rfl (by decide)
theorem dX8_of_69 : decode cX8_of 69 = .ok (.iconst 1, 1) := dk_4 (blk_at bk_cX8_of_38 31 rfl)
theorem dX8_of_70 : decode cX8_of 70 = .ok (.iload 4, 2) := dq_21 bk_cX8_of_38 32 rfl rfl
theorem dX8_of_72 : decode cX8_of 72 = .ok (.ishl, 1) := dk_120 (blk_at bk_cX8_of_38 34 rfl)
theorem dX8_of_73 : decode cX8_of 73 = .ok (.goto 4, 3) := dq_167 bk_cX8_of_38 35 rfl (by decide)
theorem dX8_of_76 : decode cX8_of 76 = .ok (.iconst 0, 1) := dk_3 (blk_at bk_cX8_of_38 38 rfl)
theorem dX8_of_77 : decode cX8_of 77 = .ok (.ior, 1) := dk_128 (blk_at bk_cX8_of_38 39 rfl)
theorem bk_cX8_of_78 : (cX8_of.data.toList.drop 78).take 9 = [62, 132, 4, 1, 167, 255, 204, 29, 172] := by decide +kernel
theorem dX8_of_78 : decode cX8_of 78 = .ok (.istore_n 3, 1) := dk_62 (blk_at bk_cX8_of_78 0 rfl)
theorem dX8_of_79 : decode cX8_of 79 = .ok (.iinc 4 1, 3) := dq_132 bk_cX8_of_78 1 rfl rfl (by decide)
theorem dX8_of_82 : decode cX8_of 82 = .ok (.goto (-52), 3) := dq_167 bk_cX8_of_78 4 rfl (by decide)
theorem dX8_of_85 : decode cX8_of 85 = .ok (.iload_n 3, 1) := dk_29 (blk_at bk_cX8_of_78 7 rfl)
theorem dX8_of_86 : decode cX8_of 86 = .ok (.ireturn, 1) := dk_172 (blk_at bk_cX8_of_78 8 rfl)
theorem bk_cX8_isEntrant_0 : (cX8_isEntrant.data.toList.drop 0).take 40 = [3, 62, 3, 54, 4, 21, 4, 42, 180, 0, 16, 5, 46, 162, 0, 39, 29, 42, 21, 4, 3, 182, 0, 67, 27, 160, 0, 18, 42, 21, 4, 4, 182, 0, 67, 28, 160, 0, 7, 4] := by decide +kernel
theorem dX8_isEntrant_0 : decode cX8_isEntrant 0 = .ok (.iconst 0, 1) := dk_3 (blk_at bk_cX8_isEntrant_0 0 rfl)
theorem dX8_isEntrant_1 : decode cX8_isEntrant 1 = .ok (.istore_n 3, 1) := dk_62 (blk_at bk_cX8_isEntrant_0 1 rfl)
theorem dX8_isEntrant_2 : decode cX8_isEntrant 2 = .ok (.iconst 0, 1) := dk_3 (blk_at bk_cX8_isEntrant_0 2 rfl)
theorem dX8_isEntrant_3 : decode cX8_isEntrant 3 = .ok (.istore 4, 2) := dq_54 bk_cX8_isEntrant_0 3 rfl rfl
theorem dX8_isEntrant_5 : decode cX8_isEntrant 5 = .ok (.iload 4, 2) := dq_21 bk_cX8_isEntrant_0 5 rfl rfl
theorem dX8_isEntrant_7 : decode cX8_isEntrant 7 = .ok (.aload_n 0, 1) := dk_42 (blk_at bk_cX8_isEntrant_0 7 rfl)
theorem dX8_isEntrant_8 : decode cX8_isEntrant 8 = .ok (.getfield 16, 3) := dq_180 bk_cX8_isEntrant_0 8 rfl rfl
theorem dX8_isEntrant_11 : decode cX8_isEntrant 11 = .ok (.iconst 2, 1) := dk_5 (blk_at bk_cX8_isEntrant_0 11 rfl)
theorem dX8_isEntrant_12 : decode cX8_isEntrant 12 = .ok (.iaload, 1) := dk_46 (blk_at bk_cX8_isEntrant_0 12 rfl)
theorem dX8_isEntrant_13 : decode cX8_isEntrant 13 = .ok (.if_icmp .ge 39, 3) := dq_162 bk_cX8_isEntrant_0 13 rfl (by decide)
theorem dX8_isEntrant_16 : decode cX8_isEntrant 16 = .ok (.iload_n 3, 1) := dk_29 (blk_at bk_cX8_isEntrant_0 16 rfl)
theorem dX8_isEntrant_17 : decode cX8_isEntrant 17 = .ok (.aload_n 0, 1) := dk_42 (blk_at bk_cX8_isEntrant_0 17 rfl)
theorem dX8_isEntrant_18 : decode cX8_isEntrant 18 = .ok (.iload 4, 2) := dq_21 bk_cX8_isEntrant_0 18 rfl rfl
theorem dX8_isEntrant_20 : decode cX8_isEntrant 20 = .ok (.iconst 0, 1) := dk_3 (blk_at bk_cX8_isEntrant_0 20 rfl)
theorem dX8_isEntrant_21 : decode cX8_isEntrant 21 = .ok (.invokevirtual 67, 3) := dq_182 bk_cX8_isEntrant_0 21 rfl rfl
theorem dX8_isEntrant_24 : decode cX8_isEntrant 24 = .ok (.iload_n 1, 1) := dk_27 (blk_at bk_cX8_isEntrant_0 24 rfl)
theorem dX8_isEntrant_25 : decode cX8_isEntrant 25 = .ok (.if_icmp .ne 18, 3) := dq_160 bk_cX8_isEntrant_0 25 rfl (by decide)
theorem dX8_isEntrant_28 : decode cX8_isEntrant 28 = .ok (.aload_n 0, 1) := dk_42 (blk_at bk_cX8_isEntrant_0 28 rfl)
theorem dX8_isEntrant_29 : decode cX8_isEntrant 29 = .ok (.iload 4, 2) := dq_21 bk_cX8_isEntrant_0 29 rfl rfl
theorem dX8_isEntrant_31 : decode cX8_isEntrant 31 = .ok (.iconst 1, 1) := dk_4 (blk_at bk_cX8_isEntrant_0 31 rfl)
theorem dX8_isEntrant_32 : decode cX8_isEntrant 32 = .ok (.invokevirtual 67, 3) := dq_182 bk_cX8_isEntrant_0 32 rfl rfl
theorem dX8_isEntrant_35 : decode cX8_isEntrant 35 = .ok (.iload_n 2, 1) := dk_28 (blk_at bk_cX8_isEntrant_0 35 rfl)
theorem dX8_isEntrant_36 : decode cX8_isEntrant 36 = .ok (.if_icmp .ne 7, 3) := dq_160 bk_cX8_isEntrant_0 36 rfl (by decide)
theorem dX8_isEntrant_39 : decode cX8_isEntrant 39 = .ok (.iconst 1, 1) := dk_4 (blk_at bk_cX8_isEntrant_0 39 rfl)
theorem bk_cX8_isEntrant_40 : (cX8_isEntrant.data.toList.drop 40).take 23 = [167, 0, 4, 3, 96, 62, 132, 4, 1, 167, 255, 212, 29, 5, 162, 0, 7, 4, 167, 0, 4, 3, 172] := by decide +kernel
theorem dX8_isEntrant_40 : decode cX8_isEntrant 40 = .ok (.goto 4, 3) := dq_167 bk_cX8_isEntrant_40 0 rfl (by decide)
theorem dX8_isEntrant_43 : decode cX8_isEntrant 43 = .ok (.iconst 0, 1) := dk_3 (blk_at bk_cX8_isEntrant_40 3 rfl)
theorem dX8_isEntrant_44 : decode cX8_isEntrant 44 = .ok (.iadd, 1) := dk_96 (blk_at bk_cX8_isEntrant_40 4 rfl)
theorem dX8_isEntrant_45 : decode cX8_isEntrant 45 = .ok (.istore_n 3, 1) := dk_62 (blk_at bk_cX8_isEntrant_40 5 rfl)
theorem dX8_isEntrant_46 : decode cX8_isEntrant 46 = .ok (.iinc 4 1, 3) := dq_132 bk_cX8_isEntrant_40 6 rfl rfl (by decide)
theorem dX8_isEntrant_49 : decode cX8_isEntrant 49 = .ok (.goto (-44), 3) := dq_167 bk_cX8_isEntrant_40 9 rfl (by decide)
theorem dX8_isEntrant_52 : decode cX8_isEntrant 52 = .ok (.iload_n 3, 1) := dk_29 (blk_at bk_cX8_isEntrant_40 12 rfl)
theorem dX8_isEntrant_53 : decode cX8_isEntrant 53 = .ok (.iconst 2, 1) := dk_5 (blk_at bk_cX8_isEntrant_40 13 rfl)
theorem dX8_isEntrant_54 : decode cX8_isEntrant 54 = .ok (.if_icmp .ge 7, 3) := dq_162 bk_cX8_isEntrant_40 14 rfl (by decide)
theorem dX8_isEntrant_57 : decode cX8_isEntrant 57 = .ok (.iconst 1, 1) := dk_4 (blk_at bk_cX8_isEntrant_40 17 rfl)
theorem dX8_isEntrant_58 : decode cX8_isEntrant 58 = .ok (.goto 4, 3) := dq_167 bk_cX8_isEntrant_40 18 rfl (by decide)
theorem dX8_isEntrant_61 : decode cX8_isEntrant 61 = .ok (.iconst 0, 1) := dk_3 (blk_at bk_cX8_isEntrant_40 21 rfl)
theorem dX8_isEntrant_62 : decode cX8_isEntrant 62 = .ok (.ireturn, 1) := dk_172 (blk_at bk_cX8_isEntrant_40 22 rfl)
theorem bk_cX8_entrant_0 : (cX8_entrant.data.toList.drop 0).take 34 = [42, 27, 182, 1, 9, 153, 0, 11, 42, 28, 182, 0, 61, 154, 0, 6, 16, 254, 172, 42, 27, 28, 182, 1, 57, 153, 0, 7, 4, 167, 0, 4, 3, 172] := by decide +kernel
theorem dX8_entrant_0 : decode cX8_entrant 0 = .ok (.aload_n 0, 1) := dk_42 (blk_at bk_cX8_entrant_0 0 rfl)
theorem dX8_entrant_1 : decode cX8_entrant 1 = .ok (.iload_n 1, 1) := dk_27 (blk_at bk_cX8_entrant_0 1 rfl)
theorem dX8_entrant_2 : decode cX8_entrant 2 = .ok (.invokevirtual 265, 3) := dq_182 bk_cX8_entrant_0 2 rfl rfl
theorem dX8_entrant_5 : decode cX8_entrant 5 = .ok (.ifCond .eq 11, 3) := dq_153 bk_cX8_entrant_0 5 rfl (by decide)
theorem dX8_entrant_8 : decode cX8_entrant 8 = .ok (.aload_n 0, 1) := dk_42 (blk_at bk_cX8_entrant_0 8 rfl)
theorem dX8_entrant_9 : decode cX8_entrant 9 = .ok (.iload_n 2, 1) := dk_28 (blk_at bk_cX8_entrant_0 9 rfl)
theorem dX8_entrant_10 : decode cX8_entrant 10 = .ok (.invokevirtual 61, 3) := dq_182 bk_cX8_entrant_0 10 rfl rfl
theorem dX8_entrant_13 : decode cX8_entrant 13 = .ok (.ifCond .ne 6, 3) := dq_154 bk_cX8_entrant_0 13 rfl (by decide)
theorem dX8_entrant_16 : decode cX8_entrant 16 = .ok (.bipush (-2), 2) := dq_16 bk_cX8_entrant_0 16 rfl (by decide)
theorem dX8_entrant_18 : decode cX8_entrant 18 = .ok (.ireturn, 1) := dk_172 (blk_at bk_cX8_entrant_0 18 rfl)
theorem dX8_entrant_19 : decode cX8_entrant 19 = .ok (.aload_n 0, 1) := dk_42 (blk_at bk_cX8_entrant_0 19 rfl)
theorem dX8_entrant_20 : decode cX8_entrant 20 = .ok (.iload_n 1, 1) := dk_27 (blk_at bk_cX8_entrant_0 20 rfl)
theorem dX8_entrant_21 : decode cX8_entrant 21 = .ok (.iload_n 2, 1) := dk_28 (blk_at bk_cX8_entrant_0 21 rfl)
theorem dX8_entrant_22 : decode cX8_entrant 22 = .ok (.invokevirtual 313, 3) := dq_182 bk_cX8_entrant_0 22 rfl rfl
theorem dX8_entrant_25 : decode cX8_entrant 25 = .ok (.ifCond .eq 7, 3) := dq_153 bk_cX8_entrant_0 25 rfl (by decide)
theorem dX8_entrant_28 : decode cX8_entrant 28 = .ok (.iconst 1, 1) := dk_4 (blk_at bk_cX8_entrant_0 28 rfl)
theorem dX8_entrant_29 : decode cX8_entrant 29 = .ok (.goto 4, 3) := dq_167 bk_cX8_entrant_0 29 rfl (by decide)
theorem dX8_entrant_32 : decode cX8_entrant 32 = .ok (.iconst 0, 1) := dk_3 (blk_at bk_cX8_entrant_0 32 rfl)
theorem dX8_entrant_33 : decode cX8_entrant 33 = .ok (.ireturn, 1) := dk_172 (blk_at bk_cX8_entrant_0 33 rfl)
theorem bk_cX8_sum_0 : (cX8_sum.data.toList.drop 0).take 40 = [42, 27, 182, 1, 9, 153, 0, 15, 28, 133, 9, 20, 1, 20, 184, 0, 45, 154, 0, 6, 16, 254, 172, 3, 62, 3, 54, 4, 21, 4, 42, 180, 0, 9, 5, 46, 162, 0, 40, 29] := by decide +kernel
theorem dX8_sum_0 : decode cX8_sum 0 = .ok (.aload_n 0, 1) := dk_42 (blk_at bk_cX8_sum_0 0 rfl)
theorem dX8_sum_1 : decode cX8_sum 1 = .ok (.iload_n 1, 1) := dk_27 (blk_at bk_cX8_sum_0 1 rfl)
theorem dX8_sum_2 : decode cX8_sum 2 = .ok (.invokevirtual 265, 3) := dq_182 bk_cX8_sum_0 2 rfl rfl
theorem dX8_sum_5 : decode cX8_sum 5 = .ok (.ifCond .eq 15, 3) := dq_153 bk_cX8_sum_0 5 rfl (by decide)
theorem dX8_sum_8 : decode cX8_sum 8 = .ok (.iload_n 2, 1) := dk_28 (blk_at bk_cX8_sum_0 8 rfl)
theorem dX8_sum_9 : decode cX8_sum 9 = .ok (.i2l, 1) := dk_133 (blk_at bk_cX8_sum_0 9 rfl)
theorem dX8_sum_10 : decode cX8_sum 10 = .ok (.lconst 0, 1) := dk_9 (blk_at bk_cX8_sum_0 10 rfl)
theorem dX8_sum_11 : decode cX8_sum 11 = .ok (.ldc2_w 276, 3) := dq_20 bk_cX8_sum_0 11 rfl rfl
theorem dX8_sum_14 : decode cX8_sum 14 = .ok (.invokestatic 45, 3) := dq_184 bk_cX8_sum_0 14 rfl rfl
theorem dX8_sum_17 : decode cX8_sum 17 = .ok (.ifCond .ne 6, 3) := dq_154 bk_cX8_sum_0 17 rfl (by decide)
theorem dX8_sum_20 : decode cX8_sum 20 = .ok (.bipush (-2), 2) := dq_16 bk_cX8_sum_0 20 rfl (by decide)
theorem dX8_sum_22 : decode cX8_sum 22 = .ok (.ireturn, 1) := dk_172 (blk_at bk_cX8_sum_0 22 rfl)
theorem dX8_sum_23 : decode cX8_sum 23 = .ok (.iconst 0, 1) := dk_3 (blk_at bk_cX8_sum_0 23 rfl)
theorem dX8_sum_24 : decode cX8_sum 24 = .ok (.istore_n 3, 1) := dk_62 (blk_at bk_cX8_sum_0 24 rfl)
theorem dX8_sum_25 : decode cX8_sum 25 = .ok (.iconst 0, 1) := dk_3 (blk_at bk_cX8_sum_0 25 rfl)
theorem dX8_sum_26 : decode cX8_sum 26 = .ok (.istore 4, 2) := dq_54 bk_cX8_sum_0 26 rfl rfl
theorem dX8_sum_28 : decode cX8_sum 28 = .ok (.iload 4, 2) := dq_21 bk_cX8_sum_0 28 rfl rfl
theorem dX8_sum_30 : decode cX8_sum 30 = .ok (.aload_n 0, 1) := dk_42 (blk_at bk_cX8_sum_0 30 rfl)
theorem dX8_sum_31 : decode cX8_sum 31 = .ok (.getfield 9, 3) := dq_180 bk_cX8_sum_0 31 rfl rfl
theorem dX8_sum_34 : decode cX8_sum 34 = .ok (.iconst 2, 1) := dk_5 (blk_at bk_cX8_sum_0 34 rfl)
theorem dX8_sum_35 : decode cX8_sum 35 = .ok (.iaload, 1) := dk_46 (blk_at bk_cX8_sum_0 35 rfl)
theorem dX8_sum_36 : decode cX8_sum 36 = .ok (.if_icmp .ge 40, 3) := dq_162 bk_cX8_sum_0 36 rfl (by decide)
theorem dX8_sum_39 : decode cX8_sum 39 = .ok (.iload_n 3, 1) := dk_29 (blk_at bk_cX8_sum_0 39 rfl)
theorem bk_cX8_sum_40 : (cX8_sum.data.toList.drop 40).take 38 = [42, 21, 4, 3, 182, 0, 67, 27, 160, 0, 19, 42, 21, 4, 16, 7, 28, 96, 182, 0, 67, 184, 1, 40, 167, 0, 4, 3, 96, 62, 132, 4, 1, 167, 255, 211, 29, 172] := by decide +kernel
theorem dX8_sum_40 : decode cX8_sum 40 = .ok (.aload_n 0, 1) := dk_42 (blk_at bk_cX8_sum_40 0 rfl)
theorem dX8_sum_41 : decode cX8_sum 41 = .ok (.iload 4, 2) := dq_21 bk_cX8_sum_40 1 rfl rfl
theorem dX8_sum_43 : decode cX8_sum 43 = .ok (.iconst 0, 1) := dk_3 (blk_at bk_cX8_sum_40 3 rfl)
theorem dX8_sum_44 : decode cX8_sum 44 = .ok (.invokevirtual 67, 3) := dq_182 bk_cX8_sum_40 4 rfl rfl
theorem dX8_sum_47 : decode cX8_sum 47 = .ok (.iload_n 1, 1) := dk_27 (blk_at bk_cX8_sum_40 7 rfl)
theorem dX8_sum_48 : decode cX8_sum 48 = .ok (.if_icmp .ne 19, 3) := dq_160 bk_cX8_sum_40 8 rfl (by decide)
theorem dX8_sum_51 : decode cX8_sum 51 = .ok (.aload_n 0, 1) := dk_42 (blk_at bk_cX8_sum_40 11 rfl)
theorem dX8_sum_52 : decode cX8_sum 52 = .ok (.iload 4, 2) := dq_21 bk_cX8_sum_40 12 rfl rfl
theorem dX8_sum_54 : decode cX8_sum 54 = .ok (.bipush 7, 2) := dq_16 bk_cX8_sum_40 14 rfl (by decide)
theorem dX8_sum_56 : decode cX8_sum 56 = .ok (.iload_n 2, 1) := dk_28 (blk_at bk_cX8_sum_40 16 rfl)
theorem dX8_sum_57 : decode cX8_sum 57 = .ok (.iadd, 1) := dk_96 (blk_at bk_cX8_sum_40 17 rfl)
theorem dX8_sum_58 : decode cX8_sum 58 = .ok (.invokevirtual 67, 3) := dq_182 bk_cX8_sum_40 18 rfl rfl
theorem dX8_sum_61 : decode cX8_sum 61 = .ok (.invokestatic 296, 3) := dq_184 bk_cX8_sum_40 21 rfl rfl
theorem dX8_sum_64 : decode cX8_sum 64 = .ok (.goto 4, 3) := dq_167 bk_cX8_sum_40 24 rfl (by decide)
theorem dX8_sum_67 : decode cX8_sum 67 = .ok (.iconst 0, 1) := dk_3 (blk_at bk_cX8_sum_40 27 rfl)
theorem dX8_sum_68 : decode cX8_sum 68 = .ok (.iadd, 1) := dk_96 (blk_at bk_cX8_sum_40 28 rfl)
theorem dX8_sum_69 : decode cX8_sum 69 = .ok (.istore_n 3, 1) := dk_62 (blk_at bk_cX8_sum_40 29 rfl)
theorem dX8_sum_70 : decode cX8_sum 70 = .ok (.iinc 4 1, 3) := dq_132 bk_cX8_sum_40 30 rfl rfl (by decide)
theorem dX8_sum_73 : decode cX8_sum 73 = .ok (.goto (-45), 3) := dq_167 bk_cX8_sum_40 33 rfl (by decide)
theorem dX8_sum_76 : decode cX8_sum 76 = .ok (.iload_n 3, 1) := dk_29 (blk_at bk_cX8_sum_40 36 rfl)
theorem dX8_sum_77 : decode cX8_sum 77 = .ok (.ireturn, 1) := dk_172 (blk_at bk_cX8_sum_40 37 rfl)
theorem bk_cX8_allOf_0 : (cX8_allOf.data.toList.drop 0).take 39 = [3, 62, 3, 54, 4, 21, 4, 42, 180, 0, 9, 5, 46, 162, 0, 49, 29, 42, 21, 4, 3, 182, 0, 67, 27, 159, 0, 7, 3, 167, 0, 25, 28, 153, 0, 15, 42, 21, 4] := by decide +kernel
theorem dX8_allOf_0 : decode cX8_allOf 0 = .ok (.iconst 0, 1) := dk_3 (blk_at bk_cX8_allOf_0 0 rfl)
theorem dX8_allOf_1 : decode cX8_allOf 1 = .ok (.istore_n 3, 1) := dk_62 (blk_at bk_cX8_allOf_0 1 rfl)
theorem dX8_allOf_2 : decode cX8_allOf 2 = .ok (.iconst 0, 1) := dk_3 (blk_at bk_cX8_allOf_0 2 rfl)
theorem dX8_allOf_3 : decode cX8_allOf 3 = .ok (.istore 4, 2) := dq_54 bk_cX8_allOf_0 3 rfl rfl
theorem dX8_allOf_5 : decode cX8_allOf 5 = .ok (.iload 4, 2) := dq_21 bk_cX8_allOf_0 5 rfl rfl
theorem dX8_allOf_7 : decode cX8_allOf 7 = .ok (.aload_n 0, 1) := dk_42 (blk_at bk_cX8_allOf_0 7 rfl)
theorem dX8_allOf_8 : decode cX8_allOf 8 = .ok (.getfield 9, 3) := dq_180 bk_cX8_allOf_0 8 rfl rfl
theorem dX8_allOf_11 : decode cX8_allOf 11 = .ok (.iconst 2, 1) := dk_5 (blk_at bk_cX8_allOf_0 11 rfl)
theorem dX8_allOf_12 : decode cX8_allOf 12 = .ok (.iaload, 1) := dk_46 (blk_at bk_cX8_allOf_0 12 rfl)
theorem dX8_allOf_13 : decode cX8_allOf 13 = .ok (.if_icmp .ge 49, 3) := dq_162 bk_cX8_allOf_0 13 rfl (by decide)
theorem dX8_allOf_16 : decode cX8_allOf 16 = .ok (.iload_n 3, 1) := dk_29 (blk_at bk_cX8_allOf_0 16 rfl)
theorem dX8_allOf_17 : decode cX8_allOf 17 = .ok (.aload_n 0, 1) := dk_42 (blk_at bk_cX8_allOf_0 17 rfl)
theorem dX8_allOf_18 : decode cX8_allOf 18 = .ok (.iload 4, 2) := dq_21 bk_cX8_allOf_0 18 rfl rfl
theorem dX8_allOf_20 : decode cX8_allOf 20 = .ok (.iconst 0, 1) := dk_3 (blk_at bk_cX8_allOf_0 20 rfl)
theorem dX8_allOf_21 : decode cX8_allOf 21 = .ok (.invokevirtual 67, 3) := dq_182 bk_cX8_allOf_0 21 rfl rfl
theorem dX8_allOf_24 : decode cX8_allOf 24 = .ok (.iload_n 1, 1) := dk_27 (blk_at bk_cX8_allOf_0 24 rfl)
theorem dX8_allOf_25 : decode cX8_allOf 25 = .ok (.if_icmp .eq 7, 3) := dq_159 bk_cX8_allOf_0 25 rfl (by decide)
theorem dX8_allOf_28 : decode cX8_allOf 28 = .ok (.iconst 0, 1) := dk_3 (blk_at bk_cX8_allOf_0 28 rfl)
theorem dX8_allOf_29 : decode cX8_allOf 29 = .ok (.goto 25, 3) := dq_167 bk_cX8_allOf_0 29 rfl (by decide)
theorem dX8_allOf_32 : decode cX8_allOf 32 = .ok (.iload_n 2, 1) := dk_28 (blk_at bk_cX8_allOf_0 32 rfl)
theorem dX8_allOf_33 : decode cX8_allOf 33 = .ok (.ifCond .eq 15, 3) := dq_153 bk_cX8_allOf_0 33 rfl (by decide)
theorem dX8_allOf_36 : decode cX8_allOf 36 = .ok (.aload_n 0, 1) := dk_42 (blk_at bk_cX8_allOf_0 36 rfl)
theorem dX8_allOf_37 : decode cX8_allOf 37 = .ok (.iload 4, 2) := dq_21 bk_cX8_allOf_0 37 rfl rfl
theorem bk_cX8_allOf_39 : (cX8_allOf.data.toList.drop 39).take 25 = [182, 0, 71, 184, 1, 40, 167, 0, 9, 42, 21, 4, 182, 1, 43, 96, 62, 132, 4, 1, 167, 255, 202, 29, 172] := by decide +kernel
theorem dX8_allOf_39 : decode cX8_allOf 39 = .ok (.invokevirtual 71, 3) := dq_182 bk_cX8_allOf_39 0 rfl rfl
theorem dX8_allOf_42 : decode cX8_allOf 42 = .ok (.invokestatic 296, 3) := dq_184 bk_cX8_allOf_39 3 rfl rfl
theorem dX8_allOf_45 : decode cX8_allOf 45 = .ok (.goto 9, 3) := dq_167 bk_cX8_allOf_39 6 rfl (by decide)
theorem dX8_allOf_48 : decode cX8_allOf 48 = .ok (.aload_n 0, 1) := dk_42 (blk_at bk_cX8_allOf_39 9 rfl)
theorem dX8_allOf_49 : decode cX8_allOf 49 = .ok (.iload 4, 2) := dq_21 bk_cX8_allOf_39 10 rfl rfl
theorem dX8_allOf_51 : decode cX8_allOf 51 = .ok (.invokevirtual 299, 3) := dq_182 bk_cX8_allOf_39 12 rfl rfl
theorem dX8_allOf_54 : decode cX8_allOf 54 = .ok (.iadd, 1) := dk_96 (blk_at bk_cX8_allOf_39 15 rfl)
theorem dX8_allOf_55 : decode cX8_allOf 55 = .ok (.istore_n 3, 1) := dk_62 (blk_at bk_cX8_allOf_39 16 rfl)
theorem dX8_allOf_56 : decode cX8_allOf 56 = .ok (.iinc 4 1, 3) := dq_132 bk_cX8_allOf_39 17 rfl rfl (by decide)
theorem dX8_allOf_59 : decode cX8_allOf 59 = .ok (.goto (-54), 3) := dq_167 bk_cX8_allOf_39 20 rfl (by decide)
theorem dX8_allOf_62 : decode cX8_allOf 62 = .ok (.iload_n 3, 1) := dk_29 (blk_at bk_cX8_allOf_39 23 rfl)
theorem dX8_allOf_63 : decode cX8_allOf 63 = .ok (.ireturn, 1) := dk_172 (blk_at bk_cX8_allOf_39 24 rfl)
theorem bk_cX8_isBetter_0 : (cX8_isBetter.data.toList.drop 0).take 39 = [42, 27, 4, 182, 1, 60, 62, 42, 28, 4, 182, 1, 60, 54, 4, 29, 153, 0, 8, 21, 4, 154, 0, 23, 29, 157, 0, 13, 21, 4, 154, 0, 12, 27, 28, 162, 0, 7, 4] := by decide +kernel
theorem dX8_isBetter_0 : decode cX8_isBetter 0 = .ok (.aload_n 0, 1) := dk_42 (blk_at bk_cX8_isBetter_0 0 rfl)
theorem dX8_isBetter_1 : decode cX8_isBetter 1 = .ok (.iload_n 1, 1) := dk_27 (blk_at bk_cX8_isBetter_0 1 rfl)
theorem dX8_isBetter_2 : decode cX8_isBetter 2 = .ok (.iconst 1, 1) := dk_4 (blk_at bk_cX8_isBetter_0 2 rfl)
theorem dX8_isBetter_3 : decode cX8_isBetter 3 = .ok (.invokevirtual 316, 3) := dq_182 bk_cX8_isBetter_0 3 rfl rfl
theorem dX8_isBetter_6 : decode cX8_isBetter 6 = .ok (.istore_n 3, 1) := dk_62 (blk_at bk_cX8_isBetter_0 6 rfl)
theorem dX8_isBetter_7 : decode cX8_isBetter 7 = .ok (.aload_n 0, 1) := dk_42 (blk_at bk_cX8_isBetter_0 7 rfl)
theorem dX8_isBetter_8 : decode cX8_isBetter 8 = .ok (.iload_n 2, 1) := dk_28 (blk_at bk_cX8_isBetter_0 8 rfl)
theorem dX8_isBetter_9 : decode cX8_isBetter 9 = .ok (.iconst 1, 1) := dk_4 (blk_at bk_cX8_isBetter_0 9 rfl)
theorem dX8_isBetter_10 : decode cX8_isBetter 10 = .ok (.invokevirtual 316, 3) := dq_182 bk_cX8_isBetter_0 10 rfl rfl
theorem dX8_isBetter_13 : decode cX8_isBetter 13 = .ok (.istore 4, 2) := dq_54 bk_cX8_isBetter_0 13 rfl rfl
theorem dX8_isBetter_15 : decode cX8_isBetter 15 = .ok (.iload_n 3, 1) := dk_29 (blk_at bk_cX8_isBetter_0 15 rfl)
theorem dX8_isBetter_16 : decode cX8_isBetter 16 = .ok (.ifCond .eq 8, 3) := dq_153 bk_cX8_isBetter_0 16 rfl (by decide)
theorem dX8_isBetter_19 : decode cX8_isBetter 19 = .ok (.iload 4, 2) := dq_21 bk_cX8_isBetter_0 19 rfl rfl
theorem dX8_isBetter_21 : decode cX8_isBetter 21 = .ok (.ifCond .ne 23, 3) := dq_154 bk_cX8_isBetter_0 21 rfl (by decide)
theorem dX8_isBetter_24 : decode cX8_isBetter 24 = .ok (.iload_n 3, 1) := dk_29 (blk_at bk_cX8_isBetter_0 24 rfl)
theorem dX8_isBetter_25 : decode cX8_isBetter 25 = .ok (.ifCond .gt 13, 3) := dq_157 bk_cX8_isBetter_0 25 rfl (by decide)
theorem dX8_isBetter_28 : decode cX8_isBetter 28 = .ok (.iload 4, 2) := dq_21 bk_cX8_isBetter_0 28 rfl rfl
theorem dX8_isBetter_30 : decode cX8_isBetter 30 = .ok (.ifCond .ne 12, 3) := dq_154 bk_cX8_isBetter_0 30 rfl (by decide)
theorem dX8_isBetter_33 : decode cX8_isBetter 33 = .ok (.iload_n 1, 1) := dk_27 (blk_at bk_cX8_isBetter_0 33 rfl)
theorem dX8_isBetter_34 : decode cX8_isBetter 34 = .ok (.iload_n 2, 1) := dk_28 (blk_at bk_cX8_isBetter_0 34 rfl)
theorem dX8_isBetter_35 : decode cX8_isBetter 35 = .ok (.if_icmp .ge 7, 3) := dq_162 bk_cX8_isBetter_0 35 rfl (by decide)
theorem dX8_isBetter_38 : decode cX8_isBetter 38 = .ok (.iconst 1, 1) := dk_4 (blk_at bk_cX8_isBetter_0 38 rfl)
theorem bk_cX8_isBetter_39 : (cX8_isBetter.data.toList.drop 39).take 40 = [167, 0, 4, 3, 172, 42, 27, 3, 182, 1, 60, 21, 4, 104, 42, 28, 3, 182, 1, 60, 29, 104, 100, 54, 5, 21, 5, 157, 0, 13, 21, 5, 154, 0, 12, 27, 28, 162, 0, 7] := by decide +kernel
theorem dX8_isBetter_39 : decode cX8_isBetter 39 = .ok (.goto 4, 3) := dq_167 bk_cX8_isBetter_39 0 rfl (by decide)
theorem dX8_isBetter_42 : decode cX8_isBetter 42 = .ok (.iconst 0, 1) := dk_3 (blk_at bk_cX8_isBetter_39 3 rfl)
theorem dX8_isBetter_43 : decode cX8_isBetter 43 = .ok (.ireturn, 1) := dk_172 (blk_at bk_cX8_isBetter_39 4 rfl)
theorem dX8_isBetter_44 : decode cX8_isBetter 44 = .ok (.aload_n 0, 1) := dk_42 (blk_at bk_cX8_isBetter_39 5 rfl)
theorem dX8_isBetter_45 : decode cX8_isBetter 45 = .ok (.iload_n 1, 1) := dk_27 (blk_at bk_cX8_isBetter_39 6 rfl)
theorem dX8_isBetter_46 : decode cX8_isBetter 46 = .ok (.iconst 0, 1) := dk_3 (blk_at bk_cX8_isBetter_39 7 rfl)
theorem dX8_isBetter_47 : decode cX8_isBetter 47 = .ok (.invokevirtual 316, 3) := dq_182 bk_cX8_isBetter_39 8 rfl rfl
theorem dX8_isBetter_50 : decode cX8_isBetter 50 = .ok (.iload 4, 2) := dq_21 bk_cX8_isBetter_39 11 rfl rfl
theorem dX8_isBetter_52 : decode cX8_isBetter 52 = .ok (.imul, 1) := dk_104 (blk_at bk_cX8_isBetter_39 13 rfl)
theorem dX8_isBetter_53 : decode cX8_isBetter 53 = .ok (.aload_n 0, 1) := dk_42 (blk_at bk_cX8_isBetter_39 14 rfl)
theorem dX8_isBetter_54 : decode cX8_isBetter 54 = .ok (.iload_n 2, 1) := dk_28 (blk_at bk_cX8_isBetter_39 15 rfl)
theorem dX8_isBetter_55 : decode cX8_isBetter 55 = .ok (.iconst 0, 1) := dk_3 (blk_at bk_cX8_isBetter_39 16 rfl)
theorem dX8_isBetter_56 : decode cX8_isBetter 56 = .ok (.invokevirtual 316, 3) := dq_182 bk_cX8_isBetter_39 17 rfl rfl
theorem dX8_isBetter_59 : decode cX8_isBetter 59 = .ok (.iload_n 3, 1) := dk_29 (blk_at bk_cX8_isBetter_39 20 rfl)
theorem dX8_isBetter_60 : decode cX8_isBetter 60 = .ok (.imul, 1) := dk_104 (blk_at bk_cX8_isBetter_39 21 rfl)
theorem dX8_isBetter_61 : decode cX8_isBetter 61 = .ok (.isub, 1) := dk_100 (blk_at bk_cX8_isBetter_39 22 rfl)
theorem dX8_isBetter_62 : decode cX8_isBetter 62 = .ok (.istore 5, 2) := dq_54 bk_cX8_isBetter_39 23 rfl rfl
theorem dX8_isBetter_64 : decode cX8_isBetter 64 = .ok (.iload 5, 2) := dq_21 bk_cX8_isBetter_39 25 rfl rfl
theorem dX8_isBetter_66 : decode cX8_isBetter 66 = .ok (.ifCond .gt 13, 3) := dq_157 bk_cX8_isBetter_39 27 rfl (by decide)
theorem dX8_isBetter_69 : decode cX8_isBetter 69 = .ok (.iload 5, 2) := dq_21 bk_cX8_isBetter_39 30 rfl rfl
theorem dX8_isBetter_71 : decode cX8_isBetter 71 = .ok (.ifCond .ne 12, 3) := dq_154 bk_cX8_isBetter_39 32 rfl (by decide)
theorem dX8_isBetter_74 : decode cX8_isBetter 74 = .ok (.iload_n 1, 1) := dk_27 (blk_at bk_cX8_isBetter_39 35 rfl)
theorem dX8_isBetter_75 : decode cX8_isBetter 75 = .ok (.iload_n 2, 1) := dk_28 (blk_at bk_cX8_isBetter_39 36 rfl)
theorem dX8_isBetter_76 : decode cX8_isBetter 76 = .ok (.if_icmp .ge 7, 3) := dq_162 bk_cX8_isBetter_39 37 rfl (by decide)
theorem bk_cX8_isBetter_79 : (cX8_isBetter.data.toList.drop 79).take 6 = [4, 167, 0, 4, 3, 172] := by decide +kernel
theorem dX8_isBetter_79 : decode cX8_isBetter 79 = .ok (.iconst 1, 1) := dk_4 (blk_at bk_cX8_isBetter_79 0 rfl)
theorem dX8_isBetter_80 : decode cX8_isBetter 80 = .ok (.goto 4, 3) := dq_167 bk_cX8_isBetter_79 1 rfl (by decide)
theorem dX8_isBetter_83 : decode cX8_isBetter 83 = .ok (.iconst 0, 1) := dk_3 (blk_at bk_cX8_isBetter_79 4 rfl)
theorem dX8_isBetter_84 : decode cX8_isBetter 84 = .ok (.ireturn, 1) := dk_172 (blk_at bk_cX8_isBetter_79 5 rfl)
theorem bk_cX8_best_0 : (cX8_best.data.toList.drop 0).take 39 = [42, 182, 0, 49, 153, 0, 7, 27, 156, 0, 6, 16, 254, 172, 3, 61, 28, 42, 180, 0, 9, 4, 46, 162, 0, 62, 3, 62, 3, 54, 4, 21, 4, 42, 180, 0, 9, 4, 46] := by decide +kernel
theorem dX8_best_0 : decode cX8_best 0 = .ok (.aload_n 0, 1) := dk_42 (blk_at bk_cX8_best_0 0 rfl)
theorem dX8_best_1 : decode cX8_best 1 = .ok (.invokevirtual 49, 3) := dq_182 bk_cX8_best_0 1 rfl rfl
theorem dX8_best_4 : decode cX8_best 4 = .ok (.ifCond .eq 7, 3) := dq_153 bk_cX8_best_0 4 rfl (by decide)
theorem dX8_best_7 : decode cX8_best 7 = .ok (.iload_n 1, 1) := dk_27 (blk_at bk_cX8_best_0 7 rfl)
theorem dX8_best_8 : decode cX8_best 8 = .ok (.ifCond .ge 6, 3) := dq_156 bk_cX8_best_0 8 rfl (by decide)
theorem dX8_best_11 : decode cX8_best 11 = .ok (.bipush (-2), 2) := dq_16 bk_cX8_best_0 11 rfl (by decide)
theorem dX8_best_13 : decode cX8_best 13 = .ok (.ireturn, 1) := dk_172 (blk_at bk_cX8_best_0 13 rfl)
theorem dX8_best_14 : decode cX8_best 14 = .ok (.iconst 0, 1) := dk_3 (blk_at bk_cX8_best_0 14 rfl)
theorem dX8_best_15 : decode cX8_best 15 = .ok (.istore_n 2, 1) := dk_61 (blk_at bk_cX8_best_0 15 rfl)
theorem dX8_best_16 : decode cX8_best 16 = .ok (.iload_n 2, 1) := dk_28 (blk_at bk_cX8_best_0 16 rfl)
theorem dX8_best_17 : decode cX8_best 17 = .ok (.aload_n 0, 1) := dk_42 (blk_at bk_cX8_best_0 17 rfl)
theorem dX8_best_18 : decode cX8_best 18 = .ok (.getfield 9, 3) := dq_180 bk_cX8_best_0 18 rfl rfl
theorem dX8_best_21 : decode cX8_best 21 = .ok (.iconst 1, 1) := dk_4 (blk_at bk_cX8_best_0 21 rfl)
theorem dX8_best_22 : decode cX8_best 22 = .ok (.iaload, 1) := dk_46 (blk_at bk_cX8_best_0 22 rfl)
theorem dX8_best_23 : decode cX8_best 23 = .ok (.if_icmp .ge 62, 3) := dq_162 bk_cX8_best_0 23 rfl (by decide)
theorem dX8_best_26 : decode cX8_best 26 = .ok (.iconst 0, 1) := dk_3 (blk_at bk_cX8_best_0 26 rfl)
theorem dX8_best_27 : decode cX8_best 27 = .ok (.istore_n 3, 1) := dk_62 (blk_at bk_cX8_best_0 27 rfl)
theorem dX8_best_28 : decode cX8_best 28 = .ok (.iconst 0, 1) := dk_3 (blk_at bk_cX8_best_0 28 rfl)
theorem dX8_best_29 : decode cX8_best 29 = .ok (.istore 4, 2) := dq_54 bk_cX8_best_0 29 rfl rfl
theorem dX8_best_31 : decode cX8_best 31 = .ok (.iload 4, 2) := dq_21 bk_cX8_best_0 31 rfl rfl
theorem dX8_best_33 : decode cX8_best 33 = .ok (.aload_n 0, 1) := dk_42 (blk_at bk_cX8_best_0 33 rfl)
theorem dX8_best_34 : decode cX8_best 34 = .ok (.getfield 9, 3) := dq_180 bk_cX8_best_0 34 rfl rfl
theorem dX8_best_37 : decode cX8_best 37 = .ok (.iconst 1, 1) := dk_4 (blk_at bk_cX8_best_0 37 rfl)
theorem dX8_best_38 : decode cX8_best 38 = .ok (.iaload, 1) := dk_46 (blk_at bk_cX8_best_0 38 rfl)
theorem bk_cX8_best_39 : (cX8_best.data.toList.drop 39).take 40 = [162, 0, 33, 29, 21, 4, 28, 159, 0, 17, 42, 21, 4, 28, 182, 1, 64, 153, 0, 7, 4, 167, 0, 4, 3, 96, 62, 132, 4, 1, 167, 255, 218, 29, 27, 160, 0, 5, 28, 172] := by decide +kernel
theorem dX8_best_39 : decode cX8_best 39 = .ok (.if_icmp .ge 33, 3) := dq_162 bk_cX8_best_39 0 rfl (by decide)
theorem dX8_best_42 : decode cX8_best 42 = .ok (.iload_n 3, 1) := dk_29 (blk_at bk_cX8_best_39 3 rfl)
theorem dX8_best_43 : decode cX8_best 43 = .ok (.iload 4, 2) := dq_21 bk_cX8_best_39 4 rfl rfl
theorem dX8_best_45 : decode cX8_best 45 = .ok (.iload_n 2, 1) := dk_28 (blk_at bk_cX8_best_39 6 rfl)
theorem dX8_best_46 : decode cX8_best 46 = .ok (.if_icmp .eq 17, 3) := dq_159 bk_cX8_best_39 7 rfl (by decide)
theorem dX8_best_49 : decode cX8_best 49 = .ok (.aload_n 0, 1) := dk_42 (blk_at bk_cX8_best_39 10 rfl)
theorem dX8_best_50 : decode cX8_best 50 = .ok (.iload 4, 2) := dq_21 bk_cX8_best_39 11 rfl rfl
theorem dX8_best_52 : decode cX8_best 52 = .ok (.iload_n 2, 1) := dk_28 (blk_at bk_cX8_best_39 13 rfl)
theorem dX8_best_53 : decode cX8_best 53 = .ok (.invokevirtual 320, 3) := dq_182 bk_cX8_best_39 14 rfl rfl
theorem dX8_best_56 : decode cX8_best 56 = .ok (.ifCond .eq 7, 3) := dq_153 bk_cX8_best_39 17 rfl (by decide)
theorem dX8_best_59 : decode cX8_best 59 = .ok (.iconst 1, 1) := dk_4 (blk_at bk_cX8_best_39 20 rfl)
theorem dX8_best_60 : decode cX8_best 60 = .ok (.goto 4, 3) := dq_167 bk_cX8_best_39 21 rfl (by decide)
theorem dX8_best_63 : decode cX8_best 63 = .ok (.iconst 0, 1) := dk_3 (blk_at bk_cX8_best_39 24 rfl)
theorem dX8_best_64 : decode cX8_best 64 = .ok (.iadd, 1) := dk_96 (blk_at bk_cX8_best_39 25 rfl)
theorem dX8_best_65 : decode cX8_best 65 = .ok (.istore_n 3, 1) := dk_62 (blk_at bk_cX8_best_39 26 rfl)
theorem dX8_best_66 : decode cX8_best 66 = .ok (.iinc 4 1, 3) := dq_132 bk_cX8_best_39 27 rfl rfl (by decide)
theorem dX8_best_69 : decode cX8_best 69 = .ok (.goto (-38), 3) := dq_167 bk_cX8_best_39 30 rfl (by decide)
theorem dX8_best_72 : decode cX8_best 72 = .ok (.iload_n 3, 1) := dk_29 (blk_at bk_cX8_best_39 33 rfl)
theorem dX8_best_73 : decode cX8_best 73 = .ok (.iload_n 1, 1) := dk_27 (blk_at bk_cX8_best_39 34 rfl)
theorem dX8_best_74 : decode cX8_best 74 = .ok (.if_icmp .ne 5, 3) := dq_160 bk_cX8_best_39 35 rfl (by decide)
theorem dX8_best_77 : decode cX8_best 77 = .ok (.iload_n 2, 1) := dk_28 (blk_at bk_cX8_best_39 38 rfl)
theorem dX8_best_78 : decode cX8_best 78 = .ok (.ireturn, 1) := dk_172 (blk_at bk_cX8_best_39 39 rfl)
theorem bk_cX8_best_79 : (cX8_best.data.toList.drop 79).take 8 = [132, 2, 1, 167, 255, 190, 2, 172] := by decide +kernel
theorem dX8_best_79 : decode cX8_best 79 = .ok (.iinc 2 1, 3) := dq_132 bk_cX8_best_79 0 rfl rfl (by decide)
theorem dX8_best_82 : decode cX8_best 82 = .ok (.goto (-66), 3) := dq_167 bk_cX8_best_79 3 rfl (by decide)
theorem dX8_best_85 : decode cX8_best 85 = .ok (.iconst (-1), 1) := dk_2 (blk_at bk_cX8_best_79 6 rfl)
theorem dX8_best_86 : decode cX8_best 86 = .ok (.ireturn, 1) := dk_172 (blk_at bk_cX8_best_79 7 rfl)
theorem bk_cX8_basisOn_0 : (cX8_basisOn.data.toList.drop 0).take 40 = [3, 62, 3, 54, 4, 21, 4, 42, 180, 0, 9, 5, 46, 162, 0, 47, 29, 42, 21, 4, 3, 182, 0, 67, 27, 160, 0, 26, 42, 21, 4, 4, 182, 0, 67, 28, 160, 0, 15, 42] := by decide +kernel
theorem dX8_basisOn_0 : decode cX8_basisOn 0 = .ok (.iconst 0, 1) := dk_3 (blk_at bk_cX8_basisOn_0 0 rfl)
theorem dX8_basisOn_1 : decode cX8_basisOn 1 = .ok (.istore_n 3, 1) := dk_62 (blk_at bk_cX8_basisOn_0 1 rfl)
theorem dX8_basisOn_2 : decode cX8_basisOn 2 = .ok (.iconst 0, 1) := dk_3 (blk_at bk_cX8_basisOn_0 2 rfl)
theorem dX8_basisOn_3 : decode cX8_basisOn 3 = .ok (.istore 4, 2) := dq_54 bk_cX8_basisOn_0 3 rfl rfl
theorem dX8_basisOn_5 : decode cX8_basisOn 5 = .ok (.iload 4, 2) := dq_21 bk_cX8_basisOn_0 5 rfl rfl
theorem dX8_basisOn_7 : decode cX8_basisOn 7 = .ok (.aload_n 0, 1) := dk_42 (blk_at bk_cX8_basisOn_0 7 rfl)
theorem dX8_basisOn_8 : decode cX8_basisOn 8 = .ok (.getfield 9, 3) := dq_180 bk_cX8_basisOn_0 8 rfl rfl
theorem dX8_basisOn_11 : decode cX8_basisOn 11 = .ok (.iconst 2, 1) := dk_5 (blk_at bk_cX8_basisOn_0 11 rfl)
theorem dX8_basisOn_12 : decode cX8_basisOn 12 = .ok (.iaload, 1) := dk_46 (blk_at bk_cX8_basisOn_0 12 rfl)
theorem dX8_basisOn_13 : decode cX8_basisOn 13 = .ok (.if_icmp .ge 47, 3) := dq_162 bk_cX8_basisOn_0 13 rfl (by decide)
theorem dX8_basisOn_16 : decode cX8_basisOn 16 = .ok (.iload_n 3, 1) := dk_29 (blk_at bk_cX8_basisOn_0 16 rfl)
theorem dX8_basisOn_17 : decode cX8_basisOn 17 = .ok (.aload_n 0, 1) := dk_42 (blk_at bk_cX8_basisOn_0 17 rfl)
theorem dX8_basisOn_18 : decode cX8_basisOn 18 = .ok (.iload 4, 2) := dq_21 bk_cX8_basisOn_0 18 rfl rfl
theorem dX8_basisOn_20 : decode cX8_basisOn 20 = .ok (.iconst 0, 1) := dk_3 (blk_at bk_cX8_basisOn_0 20 rfl)
theorem dX8_basisOn_21 : decode cX8_basisOn 21 = .ok (.invokevirtual 67, 3) := dq_182 bk_cX8_basisOn_0 21 rfl rfl
theorem dX8_basisOn_24 : decode cX8_basisOn 24 = .ok (.iload_n 1, 1) := dk_27 (blk_at bk_cX8_basisOn_0 24 rfl)
theorem dX8_basisOn_25 : decode cX8_basisOn 25 = .ok (.if_icmp .ne 26, 3) := dq_160 bk_cX8_basisOn_0 25 rfl (by decide)
theorem dX8_basisOn_28 : decode cX8_basisOn 28 = .ok (.aload_n 0, 1) := dk_42 (blk_at bk_cX8_basisOn_0 28 rfl)
theorem dX8_basisOn_29 : decode cX8_basisOn 29 = .ok (.iload 4, 2) := dq_21 bk_cX8_basisOn_0 29 rfl rfl
theorem dX8_basisOn_31 : decode cX8_basisOn 31 = .ok (.iconst 1, 1) := dk_4 (blk_at bk_cX8_basisOn_0 31 rfl)
theorem dX8_basisOn_32 : decode cX8_basisOn 32 = .ok (.invokevirtual 67, 3) := dq_182 bk_cX8_basisOn_0 32 rfl rfl
theorem dX8_basisOn_35 : decode cX8_basisOn 35 = .ok (.iload_n 2, 1) := dk_28 (blk_at bk_cX8_basisOn_0 35 rfl)
theorem dX8_basisOn_36 : decode cX8_basisOn 36 = .ok (.if_icmp .ne 15, 3) := dq_160 bk_cX8_basisOn_0 36 rfl (by decide)
theorem dX8_basisOn_39 : decode cX8_basisOn 39 = .ok (.aload_n 0, 1) := dk_42 (blk_at bk_cX8_basisOn_0 39 rfl)
theorem bk_cX8_basisOn_40 : (cX8_basisOn.data.toList.drop 40).take 22 = [21, 4, 182, 0, 71, 184, 1, 40, 167, 0, 4, 3, 96, 62, 132, 4, 1, 167, 255, 204, 29, 172] := by decide +kernel
theorem dX8_basisOn_40 : decode cX8_basisOn 40 = .ok (.iload 4, 2) := dq_21 bk_cX8_basisOn_40 0 rfl rfl
theorem dX8_basisOn_42 : decode cX8_basisOn 42 = .ok (.invokevirtual 71, 3) := dq_182 bk_cX8_basisOn_40 2 rfl rfl
theorem dX8_basisOn_45 : decode cX8_basisOn 45 = .ok (.invokestatic 296, 3) := dq_184 bk_cX8_basisOn_40 5 rfl rfl
theorem dX8_basisOn_48 : decode cX8_basisOn 48 = .ok (.goto 4, 3) := dq_167 bk_cX8_basisOn_40 8 rfl (by decide)
theorem dX8_basisOn_51 : decode cX8_basisOn 51 = .ok (.iconst 0, 1) := dk_3 (blk_at bk_cX8_basisOn_40 11 rfl)
theorem dX8_basisOn_52 : decode cX8_basisOn 52 = .ok (.iadd, 1) := dk_96 (blk_at bk_cX8_basisOn_40 12 rfl)
theorem dX8_basisOn_53 : decode cX8_basisOn 53 = .ok (.istore_n 3, 1) := dk_62 (blk_at bk_cX8_basisOn_40 13 rfl)
theorem dX8_basisOn_54 : decode cX8_basisOn 54 = .ok (.iinc 4 1, 3) := dq_132 bk_cX8_basisOn_40 14 rfl rfl (by decide)
theorem dX8_basisOn_57 : decode cX8_basisOn 57 = .ok (.goto (-52), 3) := dq_167 bk_cX8_basisOn_40 17 rfl (by decide)
theorem dX8_basisOn_60 : decode cX8_basisOn 60 = .ok (.iload_n 3, 1) := dk_29 (blk_at bk_cX8_basisOn_40 20 rfl)
theorem dX8_basisOn_61 : decode cX8_basisOn 61 = .ok (.ireturn, 1) := dk_172 (blk_at bk_cX8_basisOn_40 21 rfl)
theorem bk_cX8_most_0 : (cX8_most.data.toList.drop 0).take 40 = [42, 27, 182, 0, 61, 153, 0, 7, 28, 156, 0, 6, 16, 254, 172, 3, 62, 29, 42, 180, 0, 9, 4, 46, 162, 0, 88, 3, 54, 4, 3, 54, 5, 21, 5, 42, 180, 0, 9, 4] := by decide +kernel
theorem dX8_most_0 : decode cX8_most 0 = .ok (.aload_n 0, 1) := dk_42 (blk_at bk_cX8_most_0 0 rfl)
theorem dX8_most_1 : decode cX8_most 1 = .ok (.iload_n 1, 1) := dk_27 (blk_at bk_cX8_most_0 1 rfl)
theorem dX8_most_2 : decode cX8_most 2 = .ok (.invokevirtual 61, 3) := dq_182 bk_cX8_most_0 2 rfl rfl
theorem dX8_most_5 : decode cX8_most 5 = .ok (.ifCond .eq 7, 3) := dq_153 bk_cX8_most_0 5 rfl (by decide)
theorem dX8_most_8 : decode cX8_most 8 = .ok (.iload_n 2, 1) := dk_28 (blk_at bk_cX8_most_0 8 rfl)
theorem dX8_most_9 : decode cX8_most 9 = .ok (.ifCond .ge 6, 3) := dq_156 bk_cX8_most_0 9 rfl (by decide)
theorem dX8_most_12 : decode cX8_most 12 = .ok (.bipush (-2), 2) := dq_16 bk_cX8_most_0 12 rfl (by decide)
theorem dX8_most_14 : decode cX8_most 14 = .ok (.ireturn, 1) := dk_172 (blk_at bk_cX8_most_0 14 rfl)
theorem dX8_most_15 : decode cX8_most 15 = .ok (.iconst 0, 1) := dk_3 (blk_at bk_cX8_most_0 15 rfl)
theorem dX8_most_16 : decode cX8_most 16 = .ok (.istore_n 3, 1) := dk_62 (blk_at bk_cX8_most_0 16 rfl)
theorem dX8_most_17 : decode cX8_most 17 = .ok (.iload_n 3, 1) := dk_29 (blk_at bk_cX8_most_0 17 rfl)
theorem dX8_most_18 : decode cX8_most 18 = .ok (.aload_n 0, 1) := dk_42 (blk_at bk_cX8_most_0 18 rfl)
theorem dX8_most_19 : decode cX8_most 19 = .ok (.getfield 9, 3) := dq_180 bk_cX8_most_0 19 rfl rfl
theorem dX8_most_22 : decode cX8_most 22 = .ok (.iconst 1, 1) := dk_4 (blk_at bk_cX8_most_0 22 rfl)
theorem dX8_most_23 : decode cX8_most 23 = .ok (.iaload, 1) := dk_46 (blk_at bk_cX8_most_0 23 rfl)
theorem dX8_most_24 : decode cX8_most 24 = .ok (.if_icmp .ge 88, 3) := dq_162 bk_cX8_most_0 24 rfl (by decide)
theorem dX8_most_27 : decode cX8_most 27 = .ok (.iconst 0, 1) := dk_3 (blk_at bk_cX8_most_0 27 rfl)
theorem dX8_most_28 : decode cX8_most 28 = .ok (.istore 4, 2) := dq_54 bk_cX8_most_0 28 rfl rfl
theorem dX8_most_30 : decode cX8_most 30 = .ok (.iconst 0, 1) := dk_3 (blk_at bk_cX8_most_0 30 rfl)
theorem dX8_most_31 : decode cX8_most 31 = .ok (.istore 5, 2) := dq_54 bk_cX8_most_0 31 rfl rfl
theorem dX8_most_33 : decode cX8_most 33 = .ok (.iload 5, 2) := dq_21 bk_cX8_most_0 33 rfl rfl
theorem dX8_most_35 : decode cX8_most 35 = .ok (.aload_n 0, 1) := dk_42 (blk_at bk_cX8_most_0 35 rfl)
theorem dX8_most_36 : decode cX8_most 36 = .ok (.getfield 9, 3) := dq_180 bk_cX8_most_0 36 rfl rfl
theorem dX8_most_39 : decode cX8_most 39 = .ok (.iconst 1, 1) := dk_4 (blk_at bk_cX8_most_0 39 rfl)
theorem bk_cX8_most_40 : (cX8_most.data.toList.drop 40).take 40 = [46, 162, 0, 57, 21, 4, 42, 21, 5, 27, 182, 1, 67, 42, 29, 27, 182, 1, 67, 163, 0, 25, 42, 21, 5, 27, 182, 1, 67, 42, 29, 27, 182, 1, 67, 160, 0, 13, 21, 5] := by decide +kernel
theorem dX8_most_40 : decode cX8_most 40 = .ok (.iaload, 1) := dk_46 (blk_at bk_cX8_most_40 0 rfl)
theorem dX8_most_41 : decode cX8_most 41 = .ok (.if_icmp .ge 57, 3) := dq_162 bk_cX8_most_40 1 rfl (by decide)
theorem dX8_most_44 : decode cX8_most 44 = .ok (.iload 4, 2) := dq_21 bk_cX8_most_40 4 rfl rfl
theorem dX8_most_46 : decode cX8_most 46 = .ok (.aload_n 0, 1) := dk_42 (blk_at bk_cX8_most_40 6 rfl)
theorem dX8_most_47 : decode cX8_most 47 = .ok (.iload 5, 2) := dq_21 bk_cX8_most_40 7 rfl rfl
theorem dX8_most_49 : decode cX8_most 49 = .ok (.iload_n 1, 1) := dk_27 (blk_at bk_cX8_most_40 9 rfl)
theorem dX8_most_50 : decode cX8_most 50 = .ok (.invokevirtual 323, 3) := dq_182 bk_cX8_most_40 10 rfl rfl
theorem dX8_most_53 : decode cX8_most 53 = .ok (.aload_n 0, 1) := dk_42 (blk_at bk_cX8_most_40 13 rfl)
theorem dX8_most_54 : decode cX8_most 54 = .ok (.iload_n 3, 1) := dk_29 (blk_at bk_cX8_most_40 14 rfl)
theorem dX8_most_55 : decode cX8_most 55 = .ok (.iload_n 1, 1) := dk_27 (blk_at bk_cX8_most_40 15 rfl)
theorem dX8_most_56 : decode cX8_most 56 = .ok (.invokevirtual 323, 3) := dq_182 bk_cX8_most_40 16 rfl rfl
theorem dX8_most_59 : decode cX8_most 59 = .ok (.if_icmp .gt 25, 3) := dq_163 bk_cX8_most_40 19 rfl (by decide)
theorem dX8_most_62 : decode cX8_most 62 = .ok (.aload_n 0, 1) := dk_42 (blk_at bk_cX8_most_40 22 rfl)
theorem dX8_most_63 : decode cX8_most 63 = .ok (.iload 5, 2) := dq_21 bk_cX8_most_40 23 rfl rfl
theorem dX8_most_65 : decode cX8_most 65 = .ok (.iload_n 1, 1) := dk_27 (blk_at bk_cX8_most_40 25 rfl)
theorem dX8_most_66 : decode cX8_most 66 = .ok (.invokevirtual 323, 3) := dq_182 bk_cX8_most_40 26 rfl rfl
theorem dX8_most_69 : decode cX8_most 69 = .ok (.aload_n 0, 1) := dk_42 (blk_at bk_cX8_most_40 29 rfl)
theorem dX8_most_70 : decode cX8_most 70 = .ok (.iload_n 3, 1) := dk_29 (blk_at bk_cX8_most_40 30 rfl)
theorem dX8_most_71 : decode cX8_most 71 = .ok (.iload_n 1, 1) := dk_27 (blk_at bk_cX8_most_40 31 rfl)
theorem dX8_most_72 : decode cX8_most 72 = .ok (.invokevirtual 323, 3) := dq_182 bk_cX8_most_40 32 rfl rfl
theorem dX8_most_75 : decode cX8_most 75 = .ok (.if_icmp .ne 13, 3) := dq_160 bk_cX8_most_40 35 rfl (by decide)
theorem dX8_most_78 : decode cX8_most 78 = .ok (.iload 5, 2) := dq_21 bk_cX8_most_40 38 rfl rfl
theorem bk_cX8_most_80 : (cX8_most.data.toList.drop 80).take 34 = [29, 162, 0, 7, 4, 167, 0, 4, 3, 96, 54, 4, 132, 5, 1, 167, 255, 194, 21, 4, 28, 160, 0, 5, 29, 172, 132, 3, 1, 167, 255, 164, 2, 172] := by decide +kernel
theorem dX8_most_80 : decode cX8_most 80 = .ok (.iload_n 3, 1) := dk_29 (blk_at bk_cX8_most_80 0 rfl)
theorem dX8_most_81 : decode cX8_most 81 = .ok (.if_icmp .ge 7, 3) := dq_162 bk_cX8_most_80 1 rfl (by decide)
theorem dX8_most_84 : decode cX8_most 84 = .ok (.iconst 1, 1) := dk_4 (blk_at bk_cX8_most_80 4 rfl)
theorem dX8_most_85 : decode cX8_most 85 = .ok (.goto 4, 3) := dq_167 bk_cX8_most_80 5 rfl (by decide)
theorem dX8_most_88 : decode cX8_most 88 = .ok (.iconst 0, 1) := dk_3 (blk_at bk_cX8_most_80 8 rfl)
theorem dX8_most_89 : decode cX8_most 89 = .ok (.iadd, 1) := dk_96 (blk_at bk_cX8_most_80 9 rfl)
theorem dX8_most_90 : decode cX8_most 90 = .ok (.istore 4, 2) := dq_54 bk_cX8_most_80 10 rfl rfl
theorem dX8_most_92 : decode cX8_most 92 = .ok (.iinc 5 1, 3) := dq_132 bk_cX8_most_80 12 rfl rfl (by decide)
theorem dX8_most_95 : decode cX8_most 95 = .ok (.goto (-62), 3) := dq_167 bk_cX8_most_80 15 rfl (by decide)
theorem dX8_most_98 : decode cX8_most 98 = .ok (.iload 4, 2) := dq_21 bk_cX8_most_80 18 rfl rfl
theorem dX8_most_100 : decode cX8_most 100 = .ok (.iload_n 2, 1) := dk_28 (blk_at bk_cX8_most_80 20 rfl)
theorem dX8_most_101 : decode cX8_most 101 = .ok (.if_icmp .ne 5, 3) := dq_160 bk_cX8_most_80 21 rfl (by decide)
theorem dX8_most_104 : decode cX8_most 104 = .ok (.iload_n 3, 1) := dk_29 (blk_at bk_cX8_most_80 24 rfl)
theorem dX8_most_105 : decode cX8_most 105 = .ok (.ireturn, 1) := dk_172 (blk_at bk_cX8_most_80 25 rfl)
theorem dX8_most_106 : decode cX8_most 106 = .ok (.iinc 3 1, 3) := dq_132 bk_cX8_most_80 26 rfl rfl (by decide)
theorem dX8_most_109 : decode cX8_most 109 = .ok (.goto (-92), 3) := dq_167 bk_cX8_most_80 29 rfl (by decide)
theorem dX8_most_112 : decode cX8_most 112 = .ok (.iconst (-1), 1) := dk_2 (blk_at bk_cX8_most_80 32 rfl)
theorem dX8_most_113 : decode cX8_most 113 = .ok (.ireturn, 1) := dk_172 (blk_at bk_cX8_most_80 33 rfl)
theorem bk_cX8_peak_0 : (cX8_peak.data.toList.drop 0).take 40 = [42, 182, 0, 49, 153, 0, 13, 27, 133, 9, 10, 184, 0, 45, 154, 0, 6, 16, 254, 172, 42, 180, 0, 9, 7, 46, 42, 180, 0, 9, 3, 46, 160, 0, 5, 2, 172, 2, 61, 2] := by decide +kernel
theorem dX8_peak_0 : decode cX8_peak 0 = .ok (.aload_n 0, 1) := dk_42 (blk_at bk_cX8_peak_0 0 rfl)
theorem dX8_peak_1 : decode cX8_peak 1 = .ok (.invokevirtual 49, 3) := dq_182 bk_cX8_peak_0 1 rfl rfl
theorem dX8_peak_4 : decode cX8_peak 4 = .ok (.ifCond .eq 13, 3) := dq_153 bk_cX8_peak_0 4 rfl (by decide)
theorem dX8_peak_7 : decode cX8_peak 7 = .ok (.iload_n 1, 1) := dk_27 (blk_at bk_cX8_peak_0 7 rfl)
theorem dX8_peak_8 : decode cX8_peak 8 = .ok (.i2l, 1) := dk_133 (blk_at bk_cX8_peak_0 8 rfl)
theorem dX8_peak_9 : decode cX8_peak 9 = .ok (.lconst 0, 1) := dk_9 (blk_at bk_cX8_peak_0 9 rfl)
theorem dX8_peak_10 : decode cX8_peak 10 = .ok (.lconst 1, 1) := dk_10 (blk_at bk_cX8_peak_0 10 rfl)
theorem dX8_peak_11 : decode cX8_peak 11 = .ok (.invokestatic 45, 3) := dq_184 bk_cX8_peak_0 11 rfl rfl
theorem dX8_peak_14 : decode cX8_peak 14 = .ok (.ifCond .ne 6, 3) := dq_154 bk_cX8_peak_0 14 rfl (by decide)
theorem dX8_peak_17 : decode cX8_peak 17 = .ok (.bipush (-2), 2) := dq_16 bk_cX8_peak_0 17 rfl (by decide)
theorem dX8_peak_19 : decode cX8_peak 19 = .ok (.ireturn, 1) := dk_172 (blk_at bk_cX8_peak_0 19 rfl)
theorem dX8_peak_20 : decode cX8_peak 20 = .ok (.aload_n 0, 1) := dk_42 (blk_at bk_cX8_peak_0 20 rfl)
theorem dX8_peak_21 : decode cX8_peak 21 = .ok (.getfield 9, 3) := dq_180 bk_cX8_peak_0 21 rfl rfl
theorem dX8_peak_24 : decode cX8_peak 24 = .ok (.iconst 4, 1) := dk_7 (blk_at bk_cX8_peak_0 24 rfl)
theorem dX8_peak_25 : decode cX8_peak 25 = .ok (.iaload, 1) := dk_46 (blk_at bk_cX8_peak_0 25 rfl)
theorem dX8_peak_26 : decode cX8_peak 26 = .ok (.aload_n 0, 1) := dk_42 (blk_at bk_cX8_peak_0 26 rfl)
theorem dX8_peak_27 : decode cX8_peak 27 = .ok (.getfield 9, 3) := dq_180 bk_cX8_peak_0 27 rfl rfl
theorem dX8_peak_30 : decode cX8_peak 30 = .ok (.iconst 0, 1) := dk_3 (blk_at bk_cX8_peak_0 30 rfl)
theorem dX8_peak_31 : decode cX8_peak 31 = .ok (.iaload, 1) := dk_46 (blk_at bk_cX8_peak_0 31 rfl)
theorem dX8_peak_32 : decode cX8_peak 32 = .ok (.if_icmp .ne 5, 3) := dq_160 bk_cX8_peak_0 32 rfl (by decide)
theorem dX8_peak_35 : decode cX8_peak 35 = .ok (.iconst (-1), 1) := dk_2 (blk_at bk_cX8_peak_0 35 rfl)
theorem dX8_peak_36 : decode cX8_peak 36 = .ok (.ireturn, 1) := dk_172 (blk_at bk_cX8_peak_0 36 rfl)
theorem dX8_peak_37 : decode cX8_peak 37 = .ok (.iconst (-1), 1) := dk_2 (blk_at bk_cX8_peak_0 37 rfl)
theorem dX8_peak_38 : decode cX8_peak 38 = .ok (.istore_n 2, 1) := dk_61 (blk_at bk_cX8_peak_0 38 rfl)
theorem dX8_peak_39 : decode cX8_peak 39 = .ok (.iconst (-1), 1) := dk_2 (blk_at bk_cX8_peak_0 39 rfl)
theorem bk_cX8_peak_40 : (cX8_peak.data.toList.drop 40).take 40 = [62, 42, 180, 0, 9, 7, 46, 54, 4, 21, 4, 42, 180, 0, 9, 3, 46, 162, 0, 83, 3, 54, 5, 21, 5, 16, 7, 162, 0, 67, 3, 54, 6, 21, 6, 16, 24, 162, 0, 51] := by decide +kernel
theorem dX8_peak_40 : decode cX8_peak 40 = .ok (.istore_n 3, 1) := dk_62 (blk_at bk_cX8_peak_40 0 rfl)
theorem dX8_peak_41 : decode cX8_peak 41 = .ok (.aload_n 0, 1) := dk_42 (blk_at bk_cX8_peak_40 1 rfl)
theorem dX8_peak_42 : decode cX8_peak 42 = .ok (.getfield 9, 3) := dq_180 bk_cX8_peak_40 2 rfl rfl
theorem dX8_peak_45 : decode cX8_peak 45 = .ok (.iconst 4, 1) := dk_7 (blk_at bk_cX8_peak_40 5 rfl)
theorem dX8_peak_46 : decode cX8_peak 46 = .ok (.iaload, 1) := dk_46 (blk_at bk_cX8_peak_40 6 rfl)
theorem dX8_peak_47 : decode cX8_peak 47 = .ok (.istore 4, 2) := dq_54 bk_cX8_peak_40 7 rfl rfl
theorem dX8_peak_49 : decode cX8_peak 49 = .ok (.iload 4, 2) := dq_21 bk_cX8_peak_40 9 rfl rfl
theorem dX8_peak_51 : decode cX8_peak 51 = .ok (.aload_n 0, 1) := dk_42 (blk_at bk_cX8_peak_40 11 rfl)
theorem dX8_peak_52 : decode cX8_peak 52 = .ok (.getfield 9, 3) := dq_180 bk_cX8_peak_40 12 rfl rfl
theorem dX8_peak_55 : decode cX8_peak 55 = .ok (.iconst 0, 1) := dk_3 (blk_at bk_cX8_peak_40 15 rfl)
theorem dX8_peak_56 : decode cX8_peak 56 = .ok (.iaload, 1) := dk_46 (blk_at bk_cX8_peak_40 16 rfl)
theorem dX8_peak_57 : decode cX8_peak 57 = .ok (.if_icmp .ge 83, 3) := dq_162 bk_cX8_peak_40 17 rfl (by decide)
theorem dX8_peak_60 : decode cX8_peak 60 = .ok (.iconst 0, 1) := dk_3 (blk_at bk_cX8_peak_40 20 rfl)
theorem dX8_peak_61 : decode cX8_peak 61 = .ok (.istore 5, 2) := dq_54 bk_cX8_peak_40 21 rfl rfl
theorem dX8_peak_63 : decode cX8_peak 63 = .ok (.iload 5, 2) := dq_21 bk_cX8_peak_40 23 rfl rfl
theorem dX8_peak_65 : decode cX8_peak 65 = .ok (.bipush 7, 2) := dq_16 bk_cX8_peak_40 25 rfl (by decide)
theorem dX8_peak_67 : decode cX8_peak 67 = .ok (.if_icmp .ge 67, 3) := dq_162 bk_cX8_peak_40 27 rfl (by decide)
theorem dX8_peak_70 : decode cX8_peak 70 = .ok (.iconst 0, 1) := dk_3 (blk_at bk_cX8_peak_40 30 rfl)
theorem dX8_peak_71 : decode cX8_peak 71 = .ok (.istore 6, 2) := dq_54 bk_cX8_peak_40 31 rfl rfl
theorem dX8_peak_73 : decode cX8_peak 73 = .ok (.iload 6, 2) := dq_21 bk_cX8_peak_40 33 rfl rfl
theorem dX8_peak_75 : decode cX8_peak 75 = .ok (.bipush 24, 2) := dq_16 bk_cX8_peak_40 35 rfl (by decide)
theorem dX8_peak_77 : decode cX8_peak 77 = .ok (.if_icmp .ge 51, 3) := dq_162 bk_cX8_peak_40 37 rfl (by decide)
theorem bk_cX8_peak_80 : (cX8_peak.data.toList.drop 80).take 40 = [42, 21, 4, 21, 5, 21, 6, 3, 2, 182, 0, 86, 54, 7, 21, 7, 28, 163, 0, 6, 167, 0, 22, 21, 7, 61, 17, 3, 232, 21, 4, 104, 16, 100, 21, 5, 104, 96, 21, 6] := by decide +kernel
theorem dX8_peak_80 : decode cX8_peak 80 = .ok (.aload_n 0, 1) := dk_42 (blk_at bk_cX8_peak_80 0 rfl)
theorem dX8_peak_81 : decode cX8_peak 81 = .ok (.iload 4, 2) := dq_21 bk_cX8_peak_80 1 rfl rfl
theorem dX8_peak_83 : decode cX8_peak 83 = .ok (.iload 5, 2) := dq_21 bk_cX8_peak_80 3 rfl rfl
theorem dX8_peak_85 : decode cX8_peak 85 = .ok (.iload 6, 2) := dq_21 bk_cX8_peak_80 5 rfl rfl
theorem dX8_peak_87 : decode cX8_peak 87 = .ok (.iconst 0, 1) := dk_3 (blk_at bk_cX8_peak_80 7 rfl)
theorem dX8_peak_88 : decode cX8_peak 88 = .ok (.iconst (-1), 1) := dk_2 (blk_at bk_cX8_peak_80 8 rfl)
theorem dX8_peak_89 : decode cX8_peak 89 = .ok (.invokevirtual 86, 3) := dq_182 bk_cX8_peak_80 9 rfl rfl
theorem dX8_peak_92 : decode cX8_peak 92 = .ok (.istore 7, 2) := dq_54 bk_cX8_peak_80 12 rfl rfl
theorem dX8_peak_94 : decode cX8_peak 94 = .ok (.iload 7, 2) := dq_21 bk_cX8_peak_80 14 rfl rfl
theorem dX8_peak_96 : decode cX8_peak 96 = .ok (.iload_n 2, 1) := dk_28 (blk_at bk_cX8_peak_80 16 rfl)
theorem dX8_peak_97 : decode cX8_peak 97 = .ok (.if_icmp .gt 6, 3) := dq_163 bk_cX8_peak_80 17 rfl (by decide)
theorem dX8_peak_100 : decode cX8_peak 100 = .ok (.goto 22, 3) := dq_167 bk_cX8_peak_80 20 rfl (by decide)
theorem dX8_peak_103 : decode cX8_peak 103 = .ok (.iload 7, 2) := dq_21 bk_cX8_peak_80 23 rfl rfl
theorem dX8_peak_105 : decode cX8_peak 105 = .ok (.istore_n 2, 1) := dk_61 (blk_at bk_cX8_peak_80 25 rfl)
theorem dX8_peak_106 : decode cX8_peak 106 = .ok (.sipush 1000, 3) := dq_17 bk_cX8_peak_80 26 rfl (by decide)
theorem dX8_peak_109 : decode cX8_peak 109 = .ok (.iload 4, 2) := dq_21 bk_cX8_peak_80 29 rfl rfl
theorem dX8_peak_111 : decode cX8_peak 111 = .ok (.imul, 1) := dk_104 (blk_at bk_cX8_peak_80 31 rfl)
theorem dX8_peak_112 : decode cX8_peak 112 = .ok (.bipush 100, 2) := dq_16 bk_cX8_peak_80 32 rfl (by decide)
theorem dX8_peak_114 : decode cX8_peak 114 = .ok (.iload 5, 2) := dq_21 bk_cX8_peak_80 34 rfl rfl
theorem dX8_peak_116 : decode cX8_peak 116 = .ok (.imul, 1) := dk_104 (blk_at bk_cX8_peak_80 36 rfl)
theorem dX8_peak_117 : decode cX8_peak 117 = .ok (.iadd, 1) := dk_96 (blk_at bk_cX8_peak_80 37 rfl)
theorem dX8_peak_118 : decode cX8_peak 118 = .ok (.iload 6, 2) := dq_21 bk_cX8_peak_80 38 rfl rfl
theorem bk_cX8_peak_120 : (cX8_peak.data.toList.drop 120).take 30 = [96, 62, 132, 6, 1, 167, 255, 204, 132, 5, 1, 167, 255, 188, 132, 4, 1, 167, 255, 168, 27, 154, 0, 7, 28, 167, 0, 4, 29, 172] := by decide +kernel
theorem dX8_peak_120 : decode cX8_peak 120 = .ok (.iadd, 1) := dk_96 (blk_at bk_cX8_peak_120 0 rfl)
theorem dX8_peak_121 : decode cX8_peak 121 = .ok (.istore_n 3, 1) := dk_62 (blk_at bk_cX8_peak_120 1 rfl)
theorem dX8_peak_122 : decode cX8_peak 122 = .ok (.iinc 6 1, 3) := dq_132 bk_cX8_peak_120 2 rfl rfl (by decide)
theorem dX8_peak_125 : decode cX8_peak 125 = .ok (.goto (-52), 3) := dq_167 bk_cX8_peak_120 5 rfl (by decide)
theorem dX8_peak_128 : decode cX8_peak 128 = .ok (.iinc 5 1, 3) := dq_132 bk_cX8_peak_120 8 rfl rfl (by decide)
theorem dX8_peak_131 : decode cX8_peak 131 = .ok (.goto (-68), 3) := dq_167 bk_cX8_peak_120 11 rfl (by decide)
theorem dX8_peak_134 : decode cX8_peak 134 = .ok (.iinc 4 1, 3) := dq_132 bk_cX8_peak_120 14 rfl rfl (by decide)
theorem dX8_peak_137 : decode cX8_peak 137 = .ok (.goto (-88), 3) := dq_167 bk_cX8_peak_120 17 rfl (by decide)
theorem dX8_peak_140 : decode cX8_peak 140 = .ok (.iload_n 1, 1) := dk_27 (blk_at bk_cX8_peak_120 20 rfl)
theorem dX8_peak_141 : decode cX8_peak 141 = .ok (.ifCond .ne 7, 3) := dq_154 bk_cX8_peak_120 21 rfl (by decide)
theorem dX8_peak_144 : decode cX8_peak 144 = .ok (.iload_n 2, 1) := dk_28 (blk_at bk_cX8_peak_120 24 rfl)
theorem dX8_peak_145 : decode cX8_peak 145 = .ok (.goto 4, 3) := dq_167 bk_cX8_peak_120 25 rfl (by decide)
theorem dX8_peak_148 : decode cX8_peak 148 = .ok (.iload_n 3, 1) := dk_29 (blk_at bk_cX8_peak_120 28 rfl)
theorem dX8_peak_149 : decode cX8_peak 149 = .ok (.ireturn, 1) := dk_172 (blk_at bk_cX8_peak_120 29 rfl)
theorem bk_cX8_full_0 : (cX8_full.data.toList.drop 0).take 40 = [42, 27, 182, 0, 61, 154, 0, 6, 16, 254, 172, 3, 61, 42, 180, 0, 9, 7, 46, 62, 29, 42, 180, 0, 9, 3, 46, 162, 0, 58, 3, 54, 4, 21, 4, 16, 24, 162, 0, 42] := by decide +kernel
theorem dX8_full_0 : decode cX8_full 0 = .ok (.aload_n 0, 1) := dk_42 (blk_at bk_cX8_full_0 0 rfl)
theorem dX8_full_1 : decode cX8_full 1 = .ok (.iload_n 1, 1) := dk_27 (blk_at bk_cX8_full_0 1 rfl)
theorem dX8_full_2 : decode cX8_full 2 = .ok (.invokevirtual 61, 3) := dq_182 bk_cX8_full_0 2 rfl rfl
theorem dX8_full_5 : decode cX8_full 5 = .ok (.ifCond .ne 6, 3) := dq_154 bk_cX8_full_0 5 rfl (by decide)
theorem dX8_full_8 : decode cX8_full 8 = .ok (.bipush (-2), 2) := dq_16 bk_cX8_full_0 8 rfl (by decide)
theorem dX8_full_10 : decode cX8_full 10 = .ok (.ireturn, 1) := dk_172 (blk_at bk_cX8_full_0 10 rfl)
theorem dX8_full_11 : decode cX8_full 11 = .ok (.iconst 0, 1) := dk_3 (blk_at bk_cX8_full_0 11 rfl)
theorem dX8_full_12 : decode cX8_full 12 = .ok (.istore_n 2, 1) := dk_61 (blk_at bk_cX8_full_0 12 rfl)
theorem dX8_full_13 : decode cX8_full 13 = .ok (.aload_n 0, 1) := dk_42 (blk_at bk_cX8_full_0 13 rfl)
theorem dX8_full_14 : decode cX8_full 14 = .ok (.getfield 9, 3) := dq_180 bk_cX8_full_0 14 rfl rfl
theorem dX8_full_17 : decode cX8_full 17 = .ok (.iconst 4, 1) := dk_7 (blk_at bk_cX8_full_0 17 rfl)
theorem dX8_full_18 : decode cX8_full 18 = .ok (.iaload, 1) := dk_46 (blk_at bk_cX8_full_0 18 rfl)
theorem dX8_full_19 : decode cX8_full 19 = .ok (.istore_n 3, 1) := dk_62 (blk_at bk_cX8_full_0 19 rfl)
theorem dX8_full_20 : decode cX8_full 20 = .ok (.iload_n 3, 1) := dk_29 (blk_at bk_cX8_full_0 20 rfl)
theorem dX8_full_21 : decode cX8_full 21 = .ok (.aload_n 0, 1) := dk_42 (blk_at bk_cX8_full_0 21 rfl)
theorem dX8_full_22 : decode cX8_full 22 = .ok (.getfield 9, 3) := dq_180 bk_cX8_full_0 22 rfl rfl
theorem dX8_full_25 : decode cX8_full 25 = .ok (.iconst 0, 1) := dk_3 (blk_at bk_cX8_full_0 25 rfl)
theorem dX8_full_26 : decode cX8_full 26 = .ok (.iaload, 1) := dk_46 (blk_at bk_cX8_full_0 26 rfl)
theorem dX8_full_27 : decode cX8_full 27 = .ok (.if_icmp .ge 58, 3) := dq_162 bk_cX8_full_0 27 rfl (by decide)
theorem dX8_full_30 : decode cX8_full 30 = .ok (.iconst 0, 1) := dk_3 (blk_at bk_cX8_full_0 30 rfl)
theorem dX8_full_31 : decode cX8_full 31 = .ok (.istore 4, 2) := dq_54 bk_cX8_full_0 31 rfl rfl
theorem dX8_full_33 : decode cX8_full 33 = .ok (.iload 4, 2) := dq_21 bk_cX8_full_0 33 rfl rfl
theorem dX8_full_35 : decode cX8_full 35 = .ok (.bipush 24, 2) := dq_16 bk_cX8_full_0 35 rfl (by decide)
theorem dX8_full_37 : decode cX8_full 37 = .ok (.if_icmp .ge 42, 3) := dq_162 bk_cX8_full_0 37 rfl (by decide)
theorem bk_cX8_full_40 : (cX8_full.data.toList.drop 40).take 39 = [28, 42, 29, 27, 21, 4, 3, 2, 182, 0, 86, 42, 180, 0, 9, 16, 6, 5, 21, 4, 104, 96, 46, 161, 0, 7, 4, 167, 0, 4, 3, 96, 61, 132, 4, 1, 167, 255, 213] := by decide +kernel
theorem dX8_full_40 : decode cX8_full 40 = .ok (.iload_n 2, 1) := dk_28 (blk_at bk_cX8_full_40 0 rfl)
theorem dX8_full_41 : decode cX8_full 41 = .ok (.aload_n 0, 1) := dk_42 (blk_at bk_cX8_full_40 1 rfl)
theorem dX8_full_42 : decode cX8_full 42 = .ok (.iload_n 3, 1) := dk_29 (blk_at bk_cX8_full_40 2 rfl)
theorem dX8_full_43 : decode cX8_full 43 = .ok (.iload_n 1, 1) := dk_27 (blk_at bk_cX8_full_40 3 rfl)
theorem dX8_full_44 : decode cX8_full 44 = .ok (.iload 4, 2) := dq_21 bk_cX8_full_40 4 rfl rfl
theorem dX8_full_46 : decode cX8_full 46 = .ok (.iconst 0, 1) := dk_3 (blk_at bk_cX8_full_40 6 rfl)
theorem dX8_full_47 : decode cX8_full 47 = .ok (.iconst (-1), 1) := dk_2 (blk_at bk_cX8_full_40 7 rfl)
theorem dX8_full_48 : decode cX8_full 48 = .ok (.invokevirtual 86, 3) := dq_182 bk_cX8_full_40 8 rfl rfl
theorem dX8_full_51 : decode cX8_full 51 = .ok (.aload_n 0, 1) := dk_42 (blk_at bk_cX8_full_40 11 rfl)
theorem dX8_full_52 : decode cX8_full 52 = .ok (.getfield 9, 3) := dq_180 bk_cX8_full_40 12 rfl rfl
theorem dX8_full_55 : decode cX8_full 55 = .ok (.bipush 6, 2) := dq_16 bk_cX8_full_40 15 rfl (by decide)
theorem dX8_full_57 : decode cX8_full 57 = .ok (.iconst 2, 1) := dk_5 (blk_at bk_cX8_full_40 17 rfl)
theorem dX8_full_58 : decode cX8_full 58 = .ok (.iload 4, 2) := dq_21 bk_cX8_full_40 18 rfl rfl
theorem dX8_full_60 : decode cX8_full 60 = .ok (.imul, 1) := dk_104 (blk_at bk_cX8_full_40 20 rfl)
theorem dX8_full_61 : decode cX8_full 61 = .ok (.iadd, 1) := dk_96 (blk_at bk_cX8_full_40 21 rfl)
theorem dX8_full_62 : decode cX8_full 62 = .ok (.iaload, 1) := dk_46 (blk_at bk_cX8_full_40 22 rfl)
theorem dX8_full_63 : decode cX8_full 63 = .ok (.if_icmp .lt 7, 3) := dq_161 bk_cX8_full_40 23 rfl (by decide)
theorem dX8_full_66 : decode cX8_full 66 = .ok (.iconst 1, 1) := dk_4 (blk_at bk_cX8_full_40 26 rfl)
theorem dX8_full_67 : decode cX8_full 67 = .ok (.goto 4, 3) := dq_167 bk_cX8_full_40 27 rfl (by decide)
theorem dX8_full_70 : decode cX8_full 70 = .ok (.iconst 0, 1) := dk_3 (blk_at bk_cX8_full_40 30 rfl)
theorem dX8_full_71 : decode cX8_full 71 = .ok (.iadd, 1) := dk_96 (blk_at bk_cX8_full_40 31 rfl)
theorem dX8_full_72 : decode cX8_full 72 = .ok (.istore_n 2, 1) := dk_61 (blk_at bk_cX8_full_40 32 rfl)
theorem dX8_full_73 : decode cX8_full 73 = .ok (.iinc 4 1, 3) := dq_132 bk_cX8_full_40 33 rfl rfl (by decide)
theorem dX8_full_76 : decode cX8_full 76 = .ok (.goto (-43), 3) := dq_167 bk_cX8_full_40 36 rfl (by decide)
theorem bk_cX8_full_79 : (cX8_full.data.toList.drop 79).take 8 = [132, 3, 1, 167, 255, 194, 28, 172] := by decide +kernel
theorem dX8_full_79 : decode cX8_full 79 = .ok (.iinc 3 1, 3) := dq_132 bk_cX8_full_79 0 rfl rfl (by decide)
theorem dX8_full_82 : decode cX8_full 82 = .ok (.goto (-62), 3) := dq_167 bk_cX8_full_79 3 rfl (by decide)
theorem dX8_full_85 : decode cX8_full 85 = .ok (.iload_n 2, 1) := dk_28 (blk_at bk_cX8_full_79 6 rfl)
theorem dX8_full_86 : decode cX8_full 86 = .ok (.ireturn, 1) := dk_172 (blk_at bk_cX8_full_79 7 rfl)
theorem bk_cX8_idle_0 : (cX8_idle.data.toList.drop 0).take 40 = [42, 27, 182, 0, 61, 154, 0, 6, 16, 254, 172, 3, 61, 3, 62, 29, 16, 24, 162, 0, 77, 4, 54, 4, 42, 180, 0, 9, 7, 46, 54, 5, 21, 5, 42, 180, 0, 9, 3, 46] := by decide +kernel
theorem dX8_idle_0 : decode cX8_idle 0 = .ok (.aload_n 0, 1) := dk_42 (blk_at bk_cX8_idle_0 0 rfl)
theorem dX8_idle_1 : decode cX8_idle 1 = .ok (.iload_n 1, 1) := dk_27 (blk_at bk_cX8_idle_0 1 rfl)
theorem dX8_idle_2 : decode cX8_idle 2 = .ok (.invokevirtual 61, 3) := dq_182 bk_cX8_idle_0 2 rfl rfl
theorem dX8_idle_5 : decode cX8_idle 5 = .ok (.ifCond .ne 6, 3) := dq_154 bk_cX8_idle_0 5 rfl (by decide)
theorem dX8_idle_8 : decode cX8_idle 8 = .ok (.bipush (-2), 2) := dq_16 bk_cX8_idle_0 8 rfl (by decide)
theorem dX8_idle_10 : decode cX8_idle 10 = .ok (.ireturn, 1) := dk_172 (blk_at bk_cX8_idle_0 10 rfl)
theorem dX8_idle_11 : decode cX8_idle 11 = .ok (.iconst 0, 1) := dk_3 (blk_at bk_cX8_idle_0 11 rfl)
theorem dX8_idle_12 : decode cX8_idle 12 = .ok (.istore_n 2, 1) := dk_61 (blk_at bk_cX8_idle_0 12 rfl)
theorem dX8_idle_13 : decode cX8_idle 13 = .ok (.iconst 0, 1) := dk_3 (blk_at bk_cX8_idle_0 13 rfl)
theorem dX8_idle_14 : decode cX8_idle 14 = .ok (.istore_n 3, 1) := dk_62 (blk_at bk_cX8_idle_0 14 rfl)
theorem dX8_idle_15 : decode cX8_idle 15 = .ok (.iload_n 3, 1) := dk_29 (blk_at bk_cX8_idle_0 15 rfl)
theorem dX8_idle_16 : decode cX8_idle 16 = .ok (.bipush 24, 2) := dq_16 bk_cX8_idle_0 16 rfl (by decide)
theorem dX8_idle_18 : decode cX8_idle 18 = .ok (.if_icmp .ge 77, 3) := dq_162 bk_cX8_idle_0 18 rfl (by decide)
theorem dX8_idle_21 : decode cX8_idle 21 = .ok (.iconst 1, 1) := dk_4 (blk_at bk_cX8_idle_0 21 rfl)
theorem dX8_idle_22 : decode cX8_idle 22 = .ok (.istore 4, 2) := dq_54 bk_cX8_idle_0 22 rfl rfl
theorem dX8_idle_24 : decode cX8_idle 24 = .ok (.aload_n 0, 1) := dk_42 (blk_at bk_cX8_idle_0 24 rfl)
theorem dX8_idle_25 : decode cX8_idle 25 = .ok (.getfield 9, 3) := dq_180 bk_cX8_idle_0 25 rfl rfl
theorem dX8_idle_28 : decode cX8_idle 28 = .ok (.iconst 4, 1) := dk_7 (blk_at bk_cX8_idle_0 28 rfl)
theorem dX8_idle_29 : decode cX8_idle 29 = .ok (.iaload, 1) := dk_46 (blk_at bk_cX8_idle_0 29 rfl)
theorem dX8_idle_30 : decode cX8_idle 30 = .ok (.istore 5, 2) := dq_54 bk_cX8_idle_0 30 rfl rfl
theorem dX8_idle_32 : decode cX8_idle 32 = .ok (.iload 5, 2) := dq_21 bk_cX8_idle_0 32 rfl rfl
theorem dX8_idle_34 : decode cX8_idle 34 = .ok (.aload_n 0, 1) := dk_42 (blk_at bk_cX8_idle_0 34 rfl)
theorem dX8_idle_35 : decode cX8_idle 35 = .ok (.getfield 9, 3) := dq_180 bk_cX8_idle_0 35 rfl rfl
theorem dX8_idle_38 : decode cX8_idle 38 = .ok (.iconst 0, 1) := dk_3 (blk_at bk_cX8_idle_0 38 rfl)
theorem dX8_idle_39 : decode cX8_idle 39 = .ok (.iaload, 1) := dk_46 (blk_at bk_cX8_idle_0 39 rfl)
theorem bk_cX8_idle_40 : (cX8_idle.data.toList.drop 40).take 40 = [162, 0, 34, 21, 4, 153, 0, 29, 42, 21, 5, 27, 29, 3, 2, 182, 0, 86, 154, 0, 7, 4, 167, 0, 4, 3, 54, 4, 132, 5, 1, 167, 255, 217, 28, 21, 4, 153, 0, 9] := by decide +kernel
theorem dX8_idle_40 : decode cX8_idle 40 = .ok (.if_icmp .ge 34, 3) := dq_162 bk_cX8_idle_40 0 rfl (by decide)
theorem dX8_idle_43 : decode cX8_idle 43 = .ok (.iload 4, 2) := dq_21 bk_cX8_idle_40 3 rfl rfl
theorem dX8_idle_45 : decode cX8_idle 45 = .ok (.ifCond .eq 29, 3) := dq_153 bk_cX8_idle_40 5 rfl (by decide)
theorem dX8_idle_48 : decode cX8_idle 48 = .ok (.aload_n 0, 1) := dk_42 (blk_at bk_cX8_idle_40 8 rfl)
theorem dX8_idle_49 : decode cX8_idle 49 = .ok (.iload 5, 2) := dq_21 bk_cX8_idle_40 9 rfl rfl
theorem dX8_idle_51 : decode cX8_idle 51 = .ok (.iload_n 1, 1) := dk_27 (blk_at bk_cX8_idle_40 11 rfl)
theorem dX8_idle_52 : decode cX8_idle 52 = .ok (.iload_n 3, 1) := dk_29 (blk_at bk_cX8_idle_40 12 rfl)
theorem dX8_idle_53 : decode cX8_idle 53 = .ok (.iconst 0, 1) := dk_3 (blk_at bk_cX8_idle_40 13 rfl)
theorem dX8_idle_54 : decode cX8_idle 54 = .ok (.iconst (-1), 1) := dk_2 (blk_at bk_cX8_idle_40 14 rfl)
theorem dX8_idle_55 : decode cX8_idle 55 = .ok (.invokevirtual 86, 3) := dq_182 bk_cX8_idle_40 15 rfl rfl
theorem dX8_idle_58 : decode cX8_idle 58 = .ok (.ifCond .ne 7, 3) := dq_154 bk_cX8_idle_40 18 rfl (by decide)
theorem dX8_idle_61 : decode cX8_idle 61 = .ok (.iconst 1, 1) := dk_4 (blk_at bk_cX8_idle_40 21 rfl)
theorem dX8_idle_62 : decode cX8_idle 62 = .ok (.goto 4, 3) := dq_167 bk_cX8_idle_40 22 rfl (by decide)
theorem dX8_idle_65 : decode cX8_idle 65 = .ok (.iconst 0, 1) := dk_3 (blk_at bk_cX8_idle_40 25 rfl)
theorem dX8_idle_66 : decode cX8_idle 66 = .ok (.istore 4, 2) := dq_54 bk_cX8_idle_40 26 rfl rfl
theorem dX8_idle_68 : decode cX8_idle 68 = .ok (.iinc 5 1, 3) := dq_132 bk_cX8_idle_40 28 rfl rfl (by decide)
theorem dX8_idle_71 : decode cX8_idle 71 = .ok (.goto (-39), 3) := dq_167 bk_cX8_idle_40 31 rfl (by decide)
theorem dX8_idle_74 : decode cX8_idle 74 = .ok (.iload_n 2, 1) := dk_28 (blk_at bk_cX8_idle_40 34 rfl)
theorem dX8_idle_75 : decode cX8_idle 75 = .ok (.iload 4, 2) := dq_21 bk_cX8_idle_40 35 rfl rfl
theorem dX8_idle_77 : decode cX8_idle 77 = .ok (.ifCond .eq 9, 3) := dq_153 bk_cX8_idle_40 37 rfl (by decide)
theorem bk_cX8_idle_80 : (cX8_idle.data.toList.drop 80).take 17 = [4, 29, 120, 167, 0, 4, 3, 128, 61, 132, 3, 1, 167, 255, 179, 28, 172] := by decide +kernel
theorem dX8_idle_80 : decode cX8_idle 80 = .ok (.iconst 1, 1) := dk_4 (blk_at bk_cX8_idle_80 0 rfl)
theorem dX8_idle_81 : decode cX8_idle 81 = .ok (.iload_n 3, 1) := dk_29 (blk_at bk_cX8_idle_80 1 rfl)
theorem dX8_idle_82 : decode cX8_idle 82 = .ok (.ishl, 1) := dk_120 (blk_at bk_cX8_idle_80 2 rfl)
theorem dX8_idle_83 : decode cX8_idle 83 = .ok (.goto 4, 3) := dq_167 bk_cX8_idle_80 3 rfl (by decide)
theorem dX8_idle_86 : decode cX8_idle 86 = .ok (.iconst 0, 1) := dk_3 (blk_at bk_cX8_idle_80 6 rfl)
theorem dX8_idle_87 : decode cX8_idle 87 = .ok (.ior, 1) := dk_128 (blk_at bk_cX8_idle_80 7 rfl)
theorem dX8_idle_88 : decode cX8_idle 88 = .ok (.istore_n 2, 1) := dk_61 (blk_at bk_cX8_idle_80 8 rfl)
theorem dX8_idle_89 : decode cX8_idle 89 = .ok (.iinc 3 1, 3) := dq_132 bk_cX8_idle_80 9 rfl rfl (by decide)
theorem dX8_idle_92 : decode cX8_idle 92 = .ok (.goto (-77), 3) := dq_167 bk_cX8_idle_80 12 rfl (by decide)
theorem dX8_idle_95 : decode cX8_idle 95 = .ok (.iload_n 2, 1) := dk_28 (blk_at bk_cX8_idle_80 15 rfl)
theorem dX8_idle_96 : decode cX8_idle 96 = .ok (.ireturn, 1) := dk_172 (blk_at bk_cX8_idle_80 16 rfl)
theorem bk_cX8_fitting_0 : (cX8_fitting.data.toList.drop 0).take 38 = [42, 27, 182, 0, 61, 153, 0, 36, 28, 133, 9, 10, 184, 0, 45, 153, 0, 26, 42, 29, 182, 0, 57, 153, 0, 18, 42, 21, 4, 182, 0, 57, 153, 0, 9, 21, 4, 29] := by decide +kernel
theorem dX8_fitting_0 : decode cX8_fitting 0 = .ok (.aload_n 0, 1) := dk_42 (blk_at bk_cX8_fitting_0 0 rfl)
theorem dX8_fitting_1 : decode cX8_fitting 1 = .ok (.iload_n 1, 1) := dk_27 (blk_at bk_cX8_fitting_0 1 rfl)
theorem dX8_fitting_2 : decode cX8_fitting 2 = .ok (.invokevirtual 61, 3) := dq_182 bk_cX8_fitting_0 2 rfl rfl
theorem dX8_fitting_5 : decode cX8_fitting 5 = .ok (.ifCond .eq 36, 3) := dq_153 bk_cX8_fitting_0 5 rfl (by decide)
theorem dX8_fitting_8 : decode cX8_fitting 8 = .ok (.iload_n 2, 1) := dk_28 (blk_at bk_cX8_fitting_0 8 rfl)
theorem dX8_fitting_9 : decode cX8_fitting 9 = .ok (.i2l, 1) := dk_133 (blk_at bk_cX8_fitting_0 9 rfl)
theorem dX8_fitting_10 : decode cX8_fitting 10 = .ok (.lconst 0, 1) := dk_9 (blk_at bk_cX8_fitting_0 10 rfl)
theorem dX8_fitting_11 : decode cX8_fitting 11 = .ok (.lconst 1, 1) := dk_10 (blk_at bk_cX8_fitting_0 11 rfl)
theorem dX8_fitting_12 : decode cX8_fitting 12 = .ok (.invokestatic 45, 3) := dq_184 bk_cX8_fitting_0 12 rfl rfl
theorem dX8_fitting_15 : decode cX8_fitting 15 = .ok (.ifCond .eq 26, 3) := dq_153 bk_cX8_fitting_0 15 rfl (by decide)
theorem dX8_fitting_18 : decode cX8_fitting 18 = .ok (.aload_n 0, 1) := dk_42 (blk_at bk_cX8_fitting_0 18 rfl)
theorem dX8_fitting_19 : decode cX8_fitting 19 = .ok (.iload_n 3, 1) := dk_29 (blk_at bk_cX8_fitting_0 19 rfl)
theorem dX8_fitting_20 : decode cX8_fitting 20 = .ok (.invokevirtual 57, 3) := dq_182 bk_cX8_fitting_0 20 rfl rfl
theorem dX8_fitting_23 : decode cX8_fitting 23 = .ok (.ifCond .eq 18, 3) := dq_153 bk_cX8_fitting_0 23 rfl (by decide)
theorem dX8_fitting_26 : decode cX8_fitting 26 = .ok (.aload_n 0, 1) := dk_42 (blk_at bk_cX8_fitting_0 26 rfl)
theorem dX8_fitting_27 : decode cX8_fitting 27 = .ok (.iload 4, 2) := dq_21 bk_cX8_fitting_0 27 rfl rfl
theorem dX8_fitting_29 : decode cX8_fitting 29 = .ok (.invokevirtual 57, 3) := dq_182 bk_cX8_fitting_0 29 rfl rfl
theorem dX8_fitting_32 : decode cX8_fitting 32 = .ok (.ifCond .eq 9, 3) := dq_153 bk_cX8_fitting_0 32 rfl (by decide)
theorem dX8_fitting_35 : decode cX8_fitting 35 = .ok (.iload 4, 2) := dq_21 bk_cX8_fitting_0 35 rfl rfl
theorem dX8_fitting_37 : decode cX8_fitting 37 = .ok (.iload_n 3, 1) := dk_29 (blk_at bk_cX8_fitting_0 37 rfl)
theorem bk_cX8_fitting_38 : (cX8_fitting.data.toList.drop 38).take 40 = [162, 0, 6, 16, 254, 172, 3, 54, 5, 3, 54, 6, 21, 6, 16, 24, 162, 0, 40, 21, 5, 42, 29, 21, 4, 184, 0, 79, 27, 21, 6, 28, 2, 182, 0, 90, 153, 0, 10, 4] := by decide +kernel
theorem dX8_fitting_38 : decode cX8_fitting 38 = .ok (.if_icmp .ge 6, 3) := dq_162 bk_cX8_fitting_38 0 rfl (by decide)
theorem dX8_fitting_41 : decode cX8_fitting 41 = .ok (.bipush (-2), 2) := dq_16 bk_cX8_fitting_38 3 rfl (by decide)
theorem dX8_fitting_43 : decode cX8_fitting 43 = .ok (.ireturn, 1) := dk_172 (blk_at bk_cX8_fitting_38 5 rfl)
theorem dX8_fitting_44 : decode cX8_fitting 44 = .ok (.iconst 0, 1) := dk_3 (blk_at bk_cX8_fitting_38 6 rfl)
theorem dX8_fitting_45 : decode cX8_fitting 45 = .ok (.istore 5, 2) := dq_54 bk_cX8_fitting_38 7 rfl rfl
theorem dX8_fitting_47 : decode cX8_fitting 47 = .ok (.iconst 0, 1) := dk_3 (blk_at bk_cX8_fitting_38 9 rfl)
theorem dX8_fitting_48 : decode cX8_fitting 48 = .ok (.istore 6, 2) := dq_54 bk_cX8_fitting_38 10 rfl rfl
theorem dX8_fitting_50 : decode cX8_fitting 50 = .ok (.iload 6, 2) := dq_21 bk_cX8_fitting_38 12 rfl rfl
theorem dX8_fitting_52 : decode cX8_fitting 52 = .ok (.bipush 24, 2) := dq_16 bk_cX8_fitting_38 14 rfl (by decide)
theorem dX8_fitting_54 : decode cX8_fitting 54 = .ok (.if_icmp .ge 40, 3) := dq_162 bk_cX8_fitting_38 16 rfl (by decide)
theorem dX8_fitting_57 : decode cX8_fitting 57 = .ok (.iload 5, 2) := dq_21 bk_cX8_fitting_38 19 rfl rfl
theorem dX8_fitting_59 : decode cX8_fitting 59 = .ok (.aload_n 0, 1) := dk_42 (blk_at bk_cX8_fitting_38 21 rfl)
theorem dX8_fitting_60 : decode cX8_fitting 60 = .ok (.iload_n 3, 1) := dk_29 (blk_at bk_cX8_fitting_38 22 rfl)
theorem dX8_fitting_61 : decode cX8_fitting 61 = .ok (.iload 4, 2) := dq_21 bk_cX8_fitting_38 23 rfl rfl
theorem dX8_fitting_63 : decode cX8_fitting 63 = .ok (.invokestatic 79, 3) := dq_184 bk_cX8_fitting_38 25 rfl rfl
theorem dX8_fitting_66 : decode cX8_fitting 66 = .ok (.iload_n 1, 1) := dk_27 (blk_at bk_cX8_fitting_38 28 rfl)
theorem dX8_fitting_67 : decode cX8_fitting 67 = .ok (.iload 6, 2) := dq_21 bk_cX8_fitting_38 29 rfl rfl
theorem dX8_fitting_69 : decode cX8_fitting 69 = .ok (.iload_n 2, 1) := dk_28 (blk_at bk_cX8_fitting_38 31 rfl)
theorem dX8_fitting_70 : decode cX8_fitting 70 = .ok (.iconst (-1), 1) := dk_2 (blk_at bk_cX8_fitting_38 32 rfl)
theorem dX8_fitting_71 : decode cX8_fitting 71 = .ok (.invokevirtual 90, 3) := dq_182 bk_cX8_fitting_38 33 rfl rfl
theorem dX8_fitting_74 : decode cX8_fitting 74 = .ok (.ifCond .eq 10, 3) := dq_153 bk_cX8_fitting_38 36 rfl (by decide)
theorem dX8_fitting_77 : decode cX8_fitting 77 = .ok (.iconst 1, 1) := dk_4 (blk_at bk_cX8_fitting_38 39 rfl)
theorem bk_cX8_fitting_78 : (cX8_fitting.data.toList.drop 78).take 19 = [21, 6, 120, 167, 0, 4, 3, 128, 54, 5, 132, 6, 1, 167, 255, 215, 21, 5, 172] := by decide +kernel
theorem dX8_fitting_78 : decode cX8_fitting 78 = .ok (.iload 6, 2) := dq_21 bk_cX8_fitting_78 0 rfl rfl
theorem dX8_fitting_80 : decode cX8_fitting 80 = .ok (.ishl, 1) := dk_120 (blk_at bk_cX8_fitting_78 2 rfl)
theorem dX8_fitting_81 : decode cX8_fitting 81 = .ok (.goto 4, 3) := dq_167 bk_cX8_fitting_78 3 rfl (by decide)
theorem dX8_fitting_84 : decode cX8_fitting 84 = .ok (.iconst 0, 1) := dk_3 (blk_at bk_cX8_fitting_78 6 rfl)
theorem dX8_fitting_85 : decode cX8_fitting 85 = .ok (.ior, 1) := dk_128 (blk_at bk_cX8_fitting_78 7 rfl)
theorem dX8_fitting_86 : decode cX8_fitting 86 = .ok (.istore 5, 2) := dq_54 bk_cX8_fitting_78 8 rfl rfl
theorem dX8_fitting_88 : decode cX8_fitting 88 = .ok (.iinc 6 1, 3) := dq_132 bk_cX8_fitting_78 10 rfl rfl (by decide)
theorem dX8_fitting_91 : decode cX8_fitting 91 = .ok (.goto (-41), 3) := dq_167 bk_cX8_fitting_78 13 rfl (by decide)
theorem dX8_fitting_94 : decode cX8_fitting 94 = .ok (.iload 5, 2) := dq_21 bk_cX8_fitting_78 16 rfl rfl
theorem dX8_fitting_96 : decode cX8_fitting 96 = .ok (.ireturn, 1) := dk_172 (blk_at bk_cX8_fitting_78 18 rfl)
theorem bk_cX8_weeksOf_0 : (cX8_weeksOf.data.toList.drop 0).take 21 = [42, 27, 7, 182, 1, 28, 42, 27, 8, 182, 1, 28, 184, 0, 79, 42, 182, 0, 82, 126, 172] := by decide +kernel
theorem dX8_weeksOf_0 : decode cX8_weeksOf 0 = .ok (.aload_n 0, 1) := dk_42 (blk_at bk_cX8_weeksOf_0 0 rfl)
theorem dX8_weeksOf_1 : decode cX8_weeksOf 1 = .ok (.iload_n 1, 1) := dk_27 (blk_at bk_cX8_weeksOf_0 1 rfl)
theorem dX8_weeksOf_2 : decode cX8_weeksOf 2 = .ok (.iconst 4, 1) := dk_7 (blk_at bk_cX8_weeksOf_0 2 rfl)
theorem dX8_weeksOf_3 : decode cX8_weeksOf 3 = .ok (.invokevirtual 284, 3) := dq_182 bk_cX8_weeksOf_0 3 rfl rfl
theorem dX8_weeksOf_6 : decode cX8_weeksOf 6 = .ok (.aload_n 0, 1) := dk_42 (blk_at bk_cX8_weeksOf_0 6 rfl)
theorem dX8_weeksOf_7 : decode cX8_weeksOf 7 = .ok (.iload_n 1, 1) := dk_27 (blk_at bk_cX8_weeksOf_0 7 rfl)
theorem dX8_weeksOf_8 : decode cX8_weeksOf 8 = .ok (.iconst 5, 1) := dk_8 (blk_at bk_cX8_weeksOf_0 8 rfl)
theorem dX8_weeksOf_9 : decode cX8_weeksOf 9 = .ok (.invokevirtual 284, 3) := dq_182 bk_cX8_weeksOf_0 9 rfl rfl
theorem dX8_weeksOf_12 : decode cX8_weeksOf 12 = .ok (.invokestatic 79, 3) := dq_184 bk_cX8_weeksOf_0 12 rfl rfl
theorem dX8_weeksOf_15 : decode cX8_weeksOf 15 = .ok (.aload_n 0, 1) := dk_42 (blk_at bk_cX8_weeksOf_0 15 rfl)
theorem dX8_weeksOf_16 : decode cX8_weeksOf 16 = .ok (.invokevirtual 82, 3) := dq_182 bk_cX8_weeksOf_0 16 rfl rfl
theorem dX8_weeksOf_19 : decode cX8_weeksOf 19 = .ok (.iand, 1) := dk_126 (blk_at bk_cX8_weeksOf_0 19 rfl)
theorem dX8_weeksOf_20 : decode cX8_weeksOf 20 = .ok (.ireturn, 1) := dk_172 (blk_at bk_cX8_weeksOf_0 20 rfl)
theorem bk_cX8_canAsk_0 : (cX8_canAsk.data.toList.drop 0).take 24 = [42, 42, 27, 182, 1, 70, 42, 27, 4, 182, 1, 28, 28, 42, 27, 6, 182, 1, 28, 29, 182, 0, 90, 172] := by decide +kernel
theorem dX8_canAsk_0 : decode cX8_canAsk 0 = .ok (.aload_n 0, 1) := dk_42 (blk_at bk_cX8_canAsk_0 0 rfl)
theorem dX8_canAsk_1 : decode cX8_canAsk 1 = .ok (.aload_n 0, 1) := dk_42 (blk_at bk_cX8_canAsk_0 1 rfl)
theorem dX8_canAsk_2 : decode cX8_canAsk 2 = .ok (.iload_n 1, 1) := dk_27 (blk_at bk_cX8_canAsk_0 2 rfl)
theorem dX8_canAsk_3 : decode cX8_canAsk 3 = .ok (.invokevirtual 326, 3) := dq_182 bk_cX8_canAsk_0 3 rfl rfl
theorem dX8_canAsk_6 : decode cX8_canAsk 6 = .ok (.aload_n 0, 1) := dk_42 (blk_at bk_cX8_canAsk_0 6 rfl)
theorem dX8_canAsk_7 : decode cX8_canAsk 7 = .ok (.iload_n 1, 1) := dk_27 (blk_at bk_cX8_canAsk_0 7 rfl)
theorem dX8_canAsk_8 : decode cX8_canAsk 8 = .ok (.iconst 1, 1) := dk_4 (blk_at bk_cX8_canAsk_0 8 rfl)
theorem dX8_canAsk_9 : decode cX8_canAsk 9 = .ok (.invokevirtual 284, 3) := dq_182 bk_cX8_canAsk_0 9 rfl rfl
theorem dX8_canAsk_12 : decode cX8_canAsk 12 = .ok (.iload_n 2, 1) := dk_28 (blk_at bk_cX8_canAsk_0 12 rfl)
theorem dX8_canAsk_13 : decode cX8_canAsk 13 = .ok (.aload_n 0, 1) := dk_42 (blk_at bk_cX8_canAsk_0 13 rfl)
theorem dX8_canAsk_14 : decode cX8_canAsk 14 = .ok (.iload_n 1, 1) := dk_27 (blk_at bk_cX8_canAsk_0 14 rfl)
theorem dX8_canAsk_15 : decode cX8_canAsk 15 = .ok (.iconst 3, 1) := dk_6 (blk_at bk_cX8_canAsk_0 15 rfl)
theorem dX8_canAsk_16 : decode cX8_canAsk 16 = .ok (.invokevirtual 284, 3) := dq_182 bk_cX8_canAsk_0 16 rfl rfl
theorem dX8_canAsk_19 : decode cX8_canAsk 19 = .ok (.iload_n 3, 1) := dk_29 (blk_at bk_cX8_canAsk_0 19 rfl)
theorem dX8_canAsk_20 : decode cX8_canAsk 20 = .ok (.invokevirtual 90, 3) := dq_182 bk_cX8_canAsk_0 20 rfl rfl
theorem dX8_canAsk_23 : decode cX8_canAsk 23 = .ok (.ireturn, 1) := dk_172 (blk_at bk_cX8_canAsk_0 23 rfl)
theorem bk_cX8_fits_0 : (cX8_fits.data.toList.drop 0).take 39 = [42, 27, 182, 1, 25, 154, 0, 6, 16, 254, 172, 42, 27, 182, 1, 70, 154, 0, 7, 2, 167, 0, 23, 42, 27, 42, 27, 5, 182, 1, 28, 2, 182, 1, 73, 153, 0, 7, 4] := by decide +kernel
theorem dX8_fits_0 : decode cX8_fits 0 = .ok (.aload_n 0, 1) := dk_42 (blk_at bk_cX8_fits_0 0 rfl)
theorem dX8_fits_1 : decode cX8_fits 1 = .ok (.iload_n 1, 1) := dk_27 (blk_at bk_cX8_fits_0 1 rfl)
theorem dX8_fits_2 : decode cX8_fits 2 = .ok (.invokevirtual 281, 3) := dq_182 bk_cX8_fits_0 2 rfl rfl
theorem dX8_fits_5 : decode cX8_fits 5 = .ok (.ifCond .ne 6, 3) := dq_154 bk_cX8_fits_0 5 rfl (by decide)
theorem dX8_fits_8 : decode cX8_fits 8 = .ok (.bipush (-2), 2) := dq_16 bk_cX8_fits_0 8 rfl (by decide)
theorem dX8_fits_10 : decode cX8_fits 10 = .ok (.ireturn, 1) := dk_172 (blk_at bk_cX8_fits_0 10 rfl)
theorem dX8_fits_11 : decode cX8_fits 11 = .ok (.aload_n 0, 1) := dk_42 (blk_at bk_cX8_fits_0 11 rfl)
theorem dX8_fits_12 : decode cX8_fits 12 = .ok (.iload_n 1, 1) := dk_27 (blk_at bk_cX8_fits_0 12 rfl)
theorem dX8_fits_13 : decode cX8_fits 13 = .ok (.invokevirtual 326, 3) := dq_182 bk_cX8_fits_0 13 rfl rfl
theorem dX8_fits_16 : decode cX8_fits 16 = .ok (.ifCond .ne 7, 3) := dq_154 bk_cX8_fits_0 16 rfl (by decide)
theorem dX8_fits_19 : decode cX8_fits 19 = .ok (.iconst (-1), 1) := dk_2 (blk_at bk_cX8_fits_0 19 rfl)
theorem dX8_fits_20 : decode cX8_fits 20 = .ok (.goto 23, 3) := dq_167 bk_cX8_fits_0 20 rfl (by decide)
theorem dX8_fits_23 : decode cX8_fits 23 = .ok (.aload_n 0, 1) := dk_42 (blk_at bk_cX8_fits_0 23 rfl)
theorem dX8_fits_24 : decode cX8_fits 24 = .ok (.iload_n 1, 1) := dk_27 (blk_at bk_cX8_fits_0 24 rfl)
theorem dX8_fits_25 : decode cX8_fits 25 = .ok (.aload_n 0, 1) := dk_42 (blk_at bk_cX8_fits_0 25 rfl)
theorem dX8_fits_26 : decode cX8_fits 26 = .ok (.iload_n 1, 1) := dk_27 (blk_at bk_cX8_fits_0 26 rfl)
theorem dX8_fits_27 : decode cX8_fits 27 = .ok (.iconst 2, 1) := dk_5 (blk_at bk_cX8_fits_0 27 rfl)
theorem dX8_fits_28 : decode cX8_fits 28 = .ok (.invokevirtual 284, 3) := dq_182 bk_cX8_fits_0 28 rfl rfl
theorem dX8_fits_31 : decode cX8_fits 31 = .ok (.iconst (-1), 1) := dk_2 (blk_at bk_cX8_fits_0 31 rfl)
theorem dX8_fits_32 : decode cX8_fits 32 = .ok (.invokevirtual 329, 3) := dq_182 bk_cX8_fits_0 32 rfl rfl
theorem dX8_fits_35 : decode cX8_fits 35 = .ok (.ifCond .eq 7, 3) := dq_153 bk_cX8_fits_0 35 rfl (by decide)
theorem dX8_fits_38 : decode cX8_fits 38 = .ok (.iconst 1, 1) := dk_4 (blk_at bk_cX8_fits_0 38 rfl)
theorem bk_cX8_fits_39 : (cX8_fits.data.toList.drop 39).take 5 = [167, 0, 4, 3, 172] := by decide +kernel
theorem dX8_fits_39 : decode cX8_fits 39 = .ok (.goto 4, 3) := dq_167 bk_cX8_fits_39 0 rfl (by decide)
theorem dX8_fits_42 : decode cX8_fits 42 = .ok (.iconst 0, 1) := dk_3 (blk_at bk_cX8_fits_39 3 rfl)
theorem dX8_fits_43 : decode cX8_fits 43 = .ok (.ireturn, 1) := dk_172 (blk_at bk_cX8_fits_39 4 rfl)
theorem bk_cX8_hourFor_0 : (cX8_hourFor.data.toList.drop 0).take 38 = [42, 27, 182, 1, 70, 153, 0, 14, 42, 180, 0, 16, 5, 46, 16, 24, 160, 0, 5, 2, 172, 42, 27, 5, 182, 1, 28, 61, 3, 62, 29, 42, 27, 16, 6, 182, 1, 28] := by decide +kernel
theorem dX8_hourFor_0 : decode cX8_hourFor 0 = .ok (.aload_n 0, 1) := dk_42 (blk_at bk_cX8_hourFor_0 0 rfl)
theorem dX8_hourFor_1 : decode cX8_hourFor 1 = .ok (.iload_n 1, 1) := dk_27 (blk_at bk_cX8_hourFor_0 1 rfl)
theorem dX8_hourFor_2 : decode cX8_hourFor 2 = .ok (.invokevirtual 326, 3) := dq_182 bk_cX8_hourFor_0 2 rfl rfl
theorem dX8_hourFor_5 : decode cX8_hourFor 5 = .ok (.ifCond .eq 14, 3) := dq_153 bk_cX8_hourFor_0 5 rfl (by decide)
theorem dX8_hourFor_8 : decode cX8_hourFor 8 = .ok (.aload_n 0, 1) := dk_42 (blk_at bk_cX8_hourFor_0 8 rfl)
theorem dX8_hourFor_9 : decode cX8_hourFor 9 = .ok (.getfield 16, 3) := dq_180 bk_cX8_hourFor_0 9 rfl rfl
theorem dX8_hourFor_12 : decode cX8_hourFor 12 = .ok (.iconst 2, 1) := dk_5 (blk_at bk_cX8_hourFor_0 12 rfl)
theorem dX8_hourFor_13 : decode cX8_hourFor 13 = .ok (.iaload, 1) := dk_46 (blk_at bk_cX8_hourFor_0 13 rfl)
theorem dX8_hourFor_14 : decode cX8_hourFor 14 = .ok (.bipush 24, 2) := dq_16 bk_cX8_hourFor_0 14 rfl (by decide)
theorem dX8_hourFor_16 : decode cX8_hourFor 16 = .ok (.if_icmp .ne 5, 3) := dq_160 bk_cX8_hourFor_0 16 rfl (by decide)
theorem dX8_hourFor_19 : decode cX8_hourFor 19 = .ok (.iconst (-1), 1) := dk_2 (blk_at bk_cX8_hourFor_0 19 rfl)
theorem dX8_hourFor_20 : decode cX8_hourFor 20 = .ok (.ireturn, 1) := dk_172 (blk_at bk_cX8_hourFor_0 20 rfl)
theorem dX8_hourFor_21 : decode cX8_hourFor 21 = .ok (.aload_n 0, 1) := dk_42 (blk_at bk_cX8_hourFor_0 21 rfl)
theorem dX8_hourFor_22 : decode cX8_hourFor 22 = .ok (.iload_n 1, 1) := dk_27 (blk_at bk_cX8_hourFor_0 22 rfl)
theorem dX8_hourFor_23 : decode cX8_hourFor 23 = .ok (.iconst 2, 1) := dk_5 (blk_at bk_cX8_hourFor_0 23 rfl)
theorem dX8_hourFor_24 : decode cX8_hourFor 24 = .ok (.invokevirtual 284, 3) := dq_182 bk_cX8_hourFor_0 24 rfl rfl
theorem dX8_hourFor_27 : decode cX8_hourFor 27 = .ok (.istore_n 2, 1) := dk_61 (blk_at bk_cX8_hourFor_0 27 rfl)
theorem dX8_hourFor_28 : decode cX8_hourFor 28 = .ok (.iconst 0, 1) := dk_3 (blk_at bk_cX8_hourFor_0 28 rfl)
theorem dX8_hourFor_29 : decode cX8_hourFor 29 = .ok (.istore_n 3, 1) := dk_62 (blk_at bk_cX8_hourFor_0 29 rfl)
theorem dX8_hourFor_30 : decode cX8_hourFor 30 = .ok (.iload_n 3, 1) := dk_29 (blk_at bk_cX8_hourFor_0 30 rfl)
theorem dX8_hourFor_31 : decode cX8_hourFor 31 = .ok (.aload_n 0, 1) := dk_42 (blk_at bk_cX8_hourFor_0 31 rfl)
theorem dX8_hourFor_32 : decode cX8_hourFor 32 = .ok (.iload_n 1, 1) := dk_27 (blk_at bk_cX8_hourFor_0 32 rfl)
theorem dX8_hourFor_33 : decode cX8_hourFor 33 = .ok (.bipush 6, 2) := dq_16 bk_cX8_hourFor_0 33 rfl (by decide)
theorem dX8_hourFor_35 : decode cX8_hourFor 35 = .ok (.invokevirtual 284, 3) := dq_182 bk_cX8_hourFor_0 35 rfl rfl
theorem bk_cX8_hourFor_38 : (cX8_hourFor.data.toList.drop 38).take 38 = [163, 0, 54, 28, 29, 161, 0, 19, 42, 27, 28, 29, 100, 2, 182, 1, 73, 153, 0, 7, 28, 29, 100, 172, 28, 29, 96, 16, 24, 162, 0, 19, 42, 27, 28, 29, 96, 2] := by decide +kernel
theorem dX8_hourFor_38 : decode cX8_hourFor 38 = .ok (.if_icmp .gt 54, 3) := dq_163 bk_cX8_hourFor_38 0 rfl (by decide)
theorem dX8_hourFor_41 : decode cX8_hourFor 41 = .ok (.iload_n 2, 1) := dk_28 (blk_at bk_cX8_hourFor_38 3 rfl)
theorem dX8_hourFor_42 : decode cX8_hourFor 42 = .ok (.iload_n 3, 1) := dk_29 (blk_at bk_cX8_hourFor_38 4 rfl)
theorem dX8_hourFor_43 : decode cX8_hourFor 43 = .ok (.if_icmp .lt 19, 3) := dq_161 bk_cX8_hourFor_38 5 rfl (by decide)
theorem dX8_hourFor_46 : decode cX8_hourFor 46 = .ok (.aload_n 0, 1) := dk_42 (blk_at bk_cX8_hourFor_38 8 rfl)
theorem dX8_hourFor_47 : decode cX8_hourFor 47 = .ok (.iload_n 1, 1) := dk_27 (blk_at bk_cX8_hourFor_38 9 rfl)
theorem dX8_hourFor_48 : decode cX8_hourFor 48 = .ok (.iload_n 2, 1) := dk_28 (blk_at bk_cX8_hourFor_38 10 rfl)
theorem dX8_hourFor_49 : decode cX8_hourFor 49 = .ok (.iload_n 3, 1) := dk_29 (blk_at bk_cX8_hourFor_38 11 rfl)
theorem dX8_hourFor_50 : decode cX8_hourFor 50 = .ok (.isub, 1) := dk_100 (blk_at bk_cX8_hourFor_38 12 rfl)
theorem dX8_hourFor_51 : decode cX8_hourFor 51 = .ok (.iconst (-1), 1) := dk_2 (blk_at bk_cX8_hourFor_38 13 rfl)
theorem dX8_hourFor_52 : decode cX8_hourFor 52 = .ok (.invokevirtual 329, 3) := dq_182 bk_cX8_hourFor_38 14 rfl rfl
theorem dX8_hourFor_55 : decode cX8_hourFor 55 = .ok (.ifCond .eq 7, 3) := dq_153 bk_cX8_hourFor_38 17 rfl (by decide)
theorem dX8_hourFor_58 : decode cX8_hourFor 58 = .ok (.iload_n 2, 1) := dk_28 (blk_at bk_cX8_hourFor_38 20 rfl)
theorem dX8_hourFor_59 : decode cX8_hourFor 59 = .ok (.iload_n 3, 1) := dk_29 (blk_at bk_cX8_hourFor_38 21 rfl)
theorem dX8_hourFor_60 : decode cX8_hourFor 60 = .ok (.isub, 1) := dk_100 (blk_at bk_cX8_hourFor_38 22 rfl)
theorem dX8_hourFor_61 : decode cX8_hourFor 61 = .ok (.ireturn, 1) := dk_172 (blk_at bk_cX8_hourFor_38 23 rfl)
theorem dX8_hourFor_62 : decode cX8_hourFor 62 = .ok (.iload_n 2, 1) := dk_28 (blk_at bk_cX8_hourFor_38 24 rfl)
theorem dX8_hourFor_63 : decode cX8_hourFor 63 = .ok (.iload_n 3, 1) := dk_29 (blk_at bk_cX8_hourFor_38 25 rfl)
theorem dX8_hourFor_64 : decode cX8_hourFor 64 = .ok (.iadd, 1) := dk_96 (blk_at bk_cX8_hourFor_38 26 rfl)
theorem dX8_hourFor_65 : decode cX8_hourFor 65 = .ok (.bipush 24, 2) := dq_16 bk_cX8_hourFor_38 27 rfl (by decide)
theorem dX8_hourFor_67 : decode cX8_hourFor 67 = .ok (.if_icmp .ge 19, 3) := dq_162 bk_cX8_hourFor_38 29 rfl (by decide)
theorem dX8_hourFor_70 : decode cX8_hourFor 70 = .ok (.aload_n 0, 1) := dk_42 (blk_at bk_cX8_hourFor_38 32 rfl)
theorem dX8_hourFor_71 : decode cX8_hourFor 71 = .ok (.iload_n 1, 1) := dk_27 (blk_at bk_cX8_hourFor_38 33 rfl)
theorem dX8_hourFor_72 : decode cX8_hourFor 72 = .ok (.iload_n 2, 1) := dk_28 (blk_at bk_cX8_hourFor_38 34 rfl)
theorem dX8_hourFor_73 : decode cX8_hourFor 73 = .ok (.iload_n 3, 1) := dk_29 (blk_at bk_cX8_hourFor_38 35 rfl)
theorem dX8_hourFor_74 : decode cX8_hourFor 74 = .ok (.iadd, 1) := dk_96 (blk_at bk_cX8_hourFor_38 36 rfl)
theorem dX8_hourFor_75 : decode cX8_hourFor 75 = .ok (.iconst (-1), 1) := dk_2 (blk_at bk_cX8_hourFor_38 37 rfl)
theorem bk_cX8_hourFor_76 : (cX8_hourFor.data.toList.drop 76).take 18 = [182, 1, 73, 153, 0, 7, 28, 29, 96, 172, 132, 3, 1, 167, 255, 197, 2, 172] := by decide +kernel
theorem dX8_hourFor_76 : decode cX8_hourFor 76 = .ok (.invokevirtual 329, 3) := dq_182 bk_cX8_hourFor_76 0 rfl rfl
theorem dX8_hourFor_79 : decode cX8_hourFor 79 = .ok (.ifCond .eq 7, 3) := dq_153 bk_cX8_hourFor_76 3 rfl (by decide)
theorem dX8_hourFor_82 : decode cX8_hourFor 82 = .ok (.iload_n 2, 1) := dk_28 (blk_at bk_cX8_hourFor_76 6 rfl)
theorem dX8_hourFor_83 : decode cX8_hourFor 83 = .ok (.iload_n 3, 1) := dk_29 (blk_at bk_cX8_hourFor_76 7 rfl)
theorem dX8_hourFor_84 : decode cX8_hourFor 84 = .ok (.iadd, 1) := dk_96 (blk_at bk_cX8_hourFor_76 8 rfl)
theorem dX8_hourFor_85 : decode cX8_hourFor 85 = .ok (.ireturn, 1) := dk_172 (blk_at bk_cX8_hourFor_76 9 rfl)
theorem dX8_hourFor_86 : decode cX8_hourFor 86 = .ok (.iinc 3 1, 3) := dq_132 bk_cX8_hourFor_76 10 rfl rfl (by decide)
theorem dX8_hourFor_89 : decode cX8_hourFor 89 = .ok (.goto (-59), 3) := dq_167 bk_cX8_hourFor_76 13 rfl (by decide)
theorem dX8_hourFor_92 : decode cX8_hourFor 92 = .ok (.iconst (-1), 1) := dk_2 (blk_at bk_cX8_hourFor_76 16 rfl)
theorem dX8_hourFor_93 : decode cX8_hourFor 93 = .ok (.ireturn, 1) := dk_172 (blk_at bk_cX8_hourFor_76 17 rfl)
theorem bk_cX8_where_0 : (cX8_where.data.toList.drop 0).take 19 = [42, 27, 182, 1, 25, 153, 0, 11, 42, 27, 182, 1, 76, 167, 0, 5, 16, 254, 172] := by decide +kernel
theorem dX8_where_0 : decode cX8_where 0 = .ok (.aload_n 0, 1) := dk_42 (blk_at bk_cX8_where_0 0 rfl)
theorem dX8_where_1 : decode cX8_where 1 = .ok (.iload_n 1, 1) := dk_27 (blk_at bk_cX8_where_0 1 rfl)
theorem dX8_where_2 : decode cX8_where 2 = .ok (.invokevirtual 281, 3) := dq_182 bk_cX8_where_0 2 rfl rfl
theorem dX8_where_5 : decode cX8_where 5 = .ok (.ifCond .eq 11, 3) := dq_153 bk_cX8_where_0 5 rfl (by decide)
theorem dX8_where_8 : decode cX8_where 8 = .ok (.aload_n 0, 1) := dk_42 (blk_at bk_cX8_where_0 8 rfl)
theorem dX8_where_9 : decode cX8_where 9 = .ok (.iload_n 1, 1) := dk_27 (blk_at bk_cX8_where_0 9 rfl)
theorem dX8_where_10 : decode cX8_where 10 = .ok (.invokevirtual 332, 3) := dq_182 bk_cX8_where_0 10 rfl rfl
theorem dX8_where_13 : decode cX8_where 13 = .ok (.goto 5, 3) := dq_167 bk_cX8_where_0 13 rfl (by decide)
theorem dX8_where_16 : decode cX8_where 16 = .ok (.bipush (-2), 2) := dq_16 bk_cX8_where_0 16 rfl (by decide)
theorem dX8_where_18 : decode cX8_where 18 = .ok (.ireturn, 1) := dk_172 (blk_at bk_cX8_where_0 18 rfl)
theorem bk_cX8_blocked_0 : (cX8_blocked.data.toList.drop 0).take 40 = [42, 27, 182, 1, 25, 154, 0, 6, 16, 254, 172, 42, 27, 182, 1, 70, 153, 0, 18, 42, 27, 42, 27, 5, 182, 1, 28, 2, 182, 1, 73, 153, 0, 5, 3, 172, 3, 61, 3, 62] := by decide +kernel
theorem dX8_blocked_0 : decode cX8_blocked 0 = .ok (.aload_n 0, 1) := dk_42 (blk_at bk_cX8_blocked_0 0 rfl)
theorem dX8_blocked_1 : decode cX8_blocked 1 = .ok (.iload_n 1, 1) := dk_27 (blk_at bk_cX8_blocked_0 1 rfl)
theorem dX8_blocked_2 : decode cX8_blocked 2 = .ok (.invokevirtual 281, 3) := dq_182 bk_cX8_blocked_0 2 rfl rfl
theorem dX8_blocked_5 : decode cX8_blocked 5 = .ok (.ifCond .ne 6, 3) := dq_154 bk_cX8_blocked_0 5 rfl (by decide)
theorem dX8_blocked_8 : decode cX8_blocked 8 = .ok (.bipush (-2), 2) := dq_16 bk_cX8_blocked_0 8 rfl (by decide)
theorem dX8_blocked_10 : decode cX8_blocked 10 = .ok (.ireturn, 1) := dk_172 (blk_at bk_cX8_blocked_0 10 rfl)
theorem dX8_blocked_11 : decode cX8_blocked 11 = .ok (.aload_n 0, 1) := dk_42 (blk_at bk_cX8_blocked_0 11 rfl)
theorem dX8_blocked_12 : decode cX8_blocked 12 = .ok (.iload_n 1, 1) := dk_27 (blk_at bk_cX8_blocked_0 12 rfl)
theorem dX8_blocked_13 : decode cX8_blocked 13 = .ok (.invokevirtual 326, 3) := dq_182 bk_cX8_blocked_0 13 rfl rfl
theorem dX8_blocked_16 : decode cX8_blocked 16 = .ok (.ifCond .eq 18, 3) := dq_153 bk_cX8_blocked_0 16 rfl (by decide)
theorem dX8_blocked_19 : decode cX8_blocked 19 = .ok (.aload_n 0, 1) := dk_42 (blk_at bk_cX8_blocked_0 19 rfl)
theorem dX8_blocked_20 : decode cX8_blocked 20 = .ok (.iload_n 1, 1) := dk_27 (blk_at bk_cX8_blocked_0 20 rfl)
theorem dX8_blocked_21 : decode cX8_blocked 21 = .ok (.aload_n 0, 1) := dk_42 (blk_at bk_cX8_blocked_0 21 rfl)
theorem dX8_blocked_22 : decode cX8_blocked 22 = .ok (.iload_n 1, 1) := dk_27 (blk_at bk_cX8_blocked_0 22 rfl)
theorem dX8_blocked_23 : decode cX8_blocked 23 = .ok (.iconst 2, 1) := dk_5 (blk_at bk_cX8_blocked_0 23 rfl)
theorem dX8_blocked_24 : decode cX8_blocked 24 = .ok (.invokevirtual 284, 3) := dq_182 bk_cX8_blocked_0 24 rfl rfl
theorem dX8_blocked_27 : decode cX8_blocked 27 = .ok (.iconst (-1), 1) := dk_2 (blk_at bk_cX8_blocked_0 27 rfl)
theorem dX8_blocked_28 : decode cX8_blocked 28 = .ok (.invokevirtual 329, 3) := dq_182 bk_cX8_blocked_0 28 rfl rfl
theorem dX8_blocked_31 : decode cX8_blocked 31 = .ok (.ifCond .eq 5, 3) := dq_153 bk_cX8_blocked_0 31 rfl (by decide)
theorem dX8_blocked_34 : decode cX8_blocked 34 = .ok (.iconst 0, 1) := dk_3 (blk_at bk_cX8_blocked_0 34 rfl)
theorem dX8_blocked_35 : decode cX8_blocked 35 = .ok (.ireturn, 1) := dk_172 (blk_at bk_cX8_blocked_0 35 rfl)
theorem dX8_blocked_36 : decode cX8_blocked 36 = .ok (.iconst 0, 1) := dk_3 (blk_at bk_cX8_blocked_0 36 rfl)
theorem dX8_blocked_37 : decode cX8_blocked 37 = .ok (.istore_n 2, 1) := dk_61 (blk_at bk_cX8_blocked_0 37 rfl)
theorem dX8_blocked_38 : decode cX8_blocked 38 = .ok (.iconst 0, 1) := dk_3 (blk_at bk_cX8_blocked_0 38 rfl)
theorem dX8_blocked_39 : decode cX8_blocked 39 = .ok (.istore_n 3, 1) := dk_62 (blk_at bk_cX8_blocked_0 39 rfl)
theorem bk_cX8_blocked_40 : (cX8_blocked.data.toList.drop 40).take 38 = [29, 42, 180, 0, 9, 5, 46, 162, 0, 34, 28, 42, 27, 42, 27, 5, 182, 1, 28, 29, 182, 1, 73, 153, 0, 9, 4, 29, 120, 167, 0, 4, 3, 128, 61, 132, 3, 1] := by decide +kernel
theorem dX8_blocked_40 : decode cX8_blocked 40 = .ok (.iload_n 3, 1) := dk_29 (blk_at bk_cX8_blocked_40 0 rfl)
theorem dX8_blocked_41 : decode cX8_blocked 41 = .ok (.aload_n 0, 1) := dk_42 (blk_at bk_cX8_blocked_40 1 rfl)
theorem dX8_blocked_42 : decode cX8_blocked 42 = .ok (.getfield 9, 3) := dq_180 bk_cX8_blocked_40 2 rfl rfl
theorem dX8_blocked_45 : decode cX8_blocked 45 = .ok (.iconst 2, 1) := dk_5 (blk_at bk_cX8_blocked_40 5 rfl)
theorem dX8_blocked_46 : decode cX8_blocked 46 = .ok (.iaload, 1) := dk_46 (blk_at bk_cX8_blocked_40 6 rfl)
theorem dX8_blocked_47 : decode cX8_blocked 47 = .ok (.if_icmp .ge 34, 3) := dq_162 bk_cX8_blocked_40 7 rfl (by decide)
theorem dX8_blocked_50 : decode cX8_blocked 50 = .ok (.iload_n 2, 1) := dk_28 (blk_at bk_cX8_blocked_40 10 rfl)
theorem dX8_blocked_51 : decode cX8_blocked 51 = .ok (.aload_n 0, 1) := dk_42 (blk_at bk_cX8_blocked_40 11 rfl)
theorem dX8_blocked_52 : decode cX8_blocked 52 = .ok (.iload_n 1, 1) := dk_27 (blk_at bk_cX8_blocked_40 12 rfl)
theorem dX8_blocked_53 : decode cX8_blocked 53 = .ok (.aload_n 0, 1) := dk_42 (blk_at bk_cX8_blocked_40 13 rfl)
theorem dX8_blocked_54 : decode cX8_blocked 54 = .ok (.iload_n 1, 1) := dk_27 (blk_at bk_cX8_blocked_40 14 rfl)
theorem dX8_blocked_55 : decode cX8_blocked 55 = .ok (.iconst 2, 1) := dk_5 (blk_at bk_cX8_blocked_40 15 rfl)
theorem dX8_blocked_56 : decode cX8_blocked 56 = .ok (.invokevirtual 284, 3) := dq_182 bk_cX8_blocked_40 16 rfl rfl
theorem dX8_blocked_59 : decode cX8_blocked 59 = .ok (.iload_n 3, 1) := dk_29 (blk_at bk_cX8_blocked_40 19 rfl)
theorem dX8_blocked_60 : decode cX8_blocked 60 = .ok (.invokevirtual 329, 3) := dq_182 bk_cX8_blocked_40 20 rfl rfl
theorem dX8_blocked_63 : decode cX8_blocked 63 = .ok (.ifCond .eq 9, 3) := dq_153 bk_cX8_blocked_40 23 rfl (by decide)
theorem dX8_blocked_66 : decode cX8_blocked 66 = .ok (.iconst 1, 1) := dk_4 (blk_at bk_cX8_blocked_40 26 rfl)
theorem dX8_blocked_67 : decode cX8_blocked 67 = .ok (.iload_n 3, 1) := dk_29 (blk_at bk_cX8_blocked_40 27 rfl)
theorem dX8_blocked_68 : decode cX8_blocked 68 = .ok (.ishl, 1) := dk_120 (blk_at bk_cX8_blocked_40 28 rfl)
theorem dX8_blocked_69 : decode cX8_blocked 69 = .ok (.goto 4, 3) := dq_167 bk_cX8_blocked_40 29 rfl (by decide)
theorem dX8_blocked_72 : decode cX8_blocked 72 = .ok (.iconst 0, 1) := dk_3 (blk_at bk_cX8_blocked_40 32 rfl)
theorem dX8_blocked_73 : decode cX8_blocked 73 = .ok (.ior, 1) := dk_128 (blk_at bk_cX8_blocked_40 33 rfl)
theorem dX8_blocked_74 : decode cX8_blocked 74 = .ok (.istore_n 2, 1) := dk_61 (blk_at bk_cX8_blocked_40 34 rfl)
theorem dX8_blocked_75 : decode cX8_blocked 75 = .ok (.iinc 3 1, 3) := dq_132 bk_cX8_blocked_40 35 rfl rfl (by decide)
theorem bk_cX8_blocked_78 : (cX8_blocked.data.toList.drop 78).take 5 = [167, 255, 218, 28, 172] := by decide +kernel
theorem dX8_blocked_78 : decode cX8_blocked 78 = .ok (.goto (-38), 3) := dq_167 bk_cX8_blocked_78 0 rfl (by decide)
theorem dX8_blocked_81 : decode cX8_blocked 81 = .ok (.iload_n 2, 1) := dk_28 (blk_at bk_cX8_blocked_78 3 rfl)
theorem dX8_blocked_82 : decode cX8_blocked 82 = .ok (.ireturn, 1) := dk_172 (blk_at bk_cX8_blocked_78 4 rfl)
theorem bk_cX8_clash_0 : (cX8_clash.data.toList.drop 0).take 40 = [42, 27, 182, 1, 25, 153, 0, 11, 42, 28, 182, 1, 25, 154, 0, 6, 16, 254, 172, 42, 27, 4, 182, 1, 28, 42, 28, 4, 182, 1, 28, 160, 0, 22, 42, 27, 5, 182, 1, 28] := by decide +kernel
theorem dX8_clash_0 : decode cX8_clash 0 = .ok (.aload_n 0, 1) := dk_42 (blk_at bk_cX8_clash_0 0 rfl)
theorem dX8_clash_1 : decode cX8_clash 1 = .ok (.iload_n 1, 1) := dk_27 (blk_at bk_cX8_clash_0 1 rfl)
theorem dX8_clash_2 : decode cX8_clash 2 = .ok (.invokevirtual 281, 3) := dq_182 bk_cX8_clash_0 2 rfl rfl
theorem dX8_clash_5 : decode cX8_clash 5 = .ok (.ifCond .eq 11, 3) := dq_153 bk_cX8_clash_0 5 rfl (by decide)
theorem dX8_clash_8 : decode cX8_clash 8 = .ok (.aload_n 0, 1) := dk_42 (blk_at bk_cX8_clash_0 8 rfl)
theorem dX8_clash_9 : decode cX8_clash 9 = .ok (.iload_n 2, 1) := dk_28 (blk_at bk_cX8_clash_0 9 rfl)
theorem dX8_clash_10 : decode cX8_clash 10 = .ok (.invokevirtual 281, 3) := dq_182 bk_cX8_clash_0 10 rfl rfl
theorem dX8_clash_13 : decode cX8_clash 13 = .ok (.ifCond .ne 6, 3) := dq_154 bk_cX8_clash_0 13 rfl (by decide)
theorem dX8_clash_16 : decode cX8_clash 16 = .ok (.bipush (-2), 2) := dq_16 bk_cX8_clash_0 16 rfl (by decide)
theorem dX8_clash_18 : decode cX8_clash 18 = .ok (.ireturn, 1) := dk_172 (blk_at bk_cX8_clash_0 18 rfl)
theorem dX8_clash_19 : decode cX8_clash 19 = .ok (.aload_n 0, 1) := dk_42 (blk_at bk_cX8_clash_0 19 rfl)
theorem dX8_clash_20 : decode cX8_clash 20 = .ok (.iload_n 1, 1) := dk_27 (blk_at bk_cX8_clash_0 20 rfl)
theorem dX8_clash_21 : decode cX8_clash 21 = .ok (.iconst 1, 1) := dk_4 (blk_at bk_cX8_clash_0 21 rfl)
theorem dX8_clash_22 : decode cX8_clash 22 = .ok (.invokevirtual 284, 3) := dq_182 bk_cX8_clash_0 22 rfl rfl
theorem dX8_clash_25 : decode cX8_clash 25 = .ok (.aload_n 0, 1) := dk_42 (blk_at bk_cX8_clash_0 25 rfl)
theorem dX8_clash_26 : decode cX8_clash 26 = .ok (.iload_n 2, 1) := dk_28 (blk_at bk_cX8_clash_0 26 rfl)
theorem dX8_clash_27 : decode cX8_clash 27 = .ok (.iconst 1, 1) := dk_4 (blk_at bk_cX8_clash_0 27 rfl)
theorem dX8_clash_28 : decode cX8_clash 28 = .ok (.invokevirtual 284, 3) := dq_182 bk_cX8_clash_0 28 rfl rfl
theorem dX8_clash_31 : decode cX8_clash 31 = .ok (.if_icmp .ne 22, 3) := dq_160 bk_cX8_clash_0 31 rfl (by decide)
theorem dX8_clash_34 : decode cX8_clash 34 = .ok (.aload_n 0, 1) := dk_42 (blk_at bk_cX8_clash_0 34 rfl)
theorem dX8_clash_35 : decode cX8_clash 35 = .ok (.iload_n 1, 1) := dk_27 (blk_at bk_cX8_clash_0 35 rfl)
theorem dX8_clash_36 : decode cX8_clash 36 = .ok (.iconst 2, 1) := dk_5 (blk_at bk_cX8_clash_0 36 rfl)
theorem dX8_clash_37 : decode cX8_clash 37 = .ok (.invokevirtual 284, 3) := dq_182 bk_cX8_clash_0 37 rfl rfl
theorem bk_cX8_clash_40 : (cX8_clash.data.toList.drop 40).take 40 = [42, 28, 5, 182, 1, 28, 160, 0, 7, 4, 167, 0, 4, 3, 62, 29, 153, 0, 40, 42, 27, 7, 182, 1, 28, 42, 27, 8, 182, 1, 28, 184, 0, 79, 42, 28, 7, 182, 1, 28] := by decide +kernel
theorem dX8_clash_40 : decode cX8_clash 40 = .ok (.aload_n 0, 1) := dk_42 (blk_at bk_cX8_clash_40 0 rfl)
theorem dX8_clash_41 : decode cX8_clash 41 = .ok (.iload_n 2, 1) := dk_28 (blk_at bk_cX8_clash_40 1 rfl)
theorem dX8_clash_42 : decode cX8_clash 42 = .ok (.iconst 2, 1) := dk_5 (blk_at bk_cX8_clash_40 2 rfl)
theorem dX8_clash_43 : decode cX8_clash 43 = .ok (.invokevirtual 284, 3) := dq_182 bk_cX8_clash_40 3 rfl rfl
theorem dX8_clash_46 : decode cX8_clash 46 = .ok (.if_icmp .ne 7, 3) := dq_160 bk_cX8_clash_40 6 rfl (by decide)
theorem dX8_clash_49 : decode cX8_clash 49 = .ok (.iconst 1, 1) := dk_4 (blk_at bk_cX8_clash_40 9 rfl)
theorem dX8_clash_50 : decode cX8_clash 50 = .ok (.goto 4, 3) := dq_167 bk_cX8_clash_40 10 rfl (by decide)
theorem dX8_clash_53 : decode cX8_clash 53 = .ok (.iconst 0, 1) := dk_3 (blk_at bk_cX8_clash_40 13 rfl)
theorem dX8_clash_54 : decode cX8_clash 54 = .ok (.istore_n 3, 1) := dk_62 (blk_at bk_cX8_clash_40 14 rfl)
theorem dX8_clash_55 : decode cX8_clash 55 = .ok (.iload_n 3, 1) := dk_29 (blk_at bk_cX8_clash_40 15 rfl)
theorem dX8_clash_56 : decode cX8_clash 56 = .ok (.ifCond .eq 40, 3) := dq_153 bk_cX8_clash_40 16 rfl (by decide)
theorem dX8_clash_59 : decode cX8_clash 59 = .ok (.aload_n 0, 1) := dk_42 (blk_at bk_cX8_clash_40 19 rfl)
theorem dX8_clash_60 : decode cX8_clash 60 = .ok (.iload_n 1, 1) := dk_27 (blk_at bk_cX8_clash_40 20 rfl)
theorem dX8_clash_61 : decode cX8_clash 61 = .ok (.iconst 4, 1) := dk_7 (blk_at bk_cX8_clash_40 21 rfl)
theorem dX8_clash_62 : decode cX8_clash 62 = .ok (.invokevirtual 284, 3) := dq_182 bk_cX8_clash_40 22 rfl rfl
theorem dX8_clash_65 : decode cX8_clash 65 = .ok (.aload_n 0, 1) := dk_42 (blk_at bk_cX8_clash_40 25 rfl)
theorem dX8_clash_66 : decode cX8_clash 66 = .ok (.iload_n 1, 1) := dk_27 (blk_at bk_cX8_clash_40 26 rfl)
theorem dX8_clash_67 : decode cX8_clash 67 = .ok (.iconst 5, 1) := dk_8 (blk_at bk_cX8_clash_40 27 rfl)
theorem dX8_clash_68 : decode cX8_clash 68 = .ok (.invokevirtual 284, 3) := dq_182 bk_cX8_clash_40 28 rfl rfl
theorem dX8_clash_71 : decode cX8_clash 71 = .ok (.invokestatic 79, 3) := dq_184 bk_cX8_clash_40 31 rfl rfl
theorem dX8_clash_74 : decode cX8_clash 74 = .ok (.aload_n 0, 1) := dk_42 (blk_at bk_cX8_clash_40 34 rfl)
theorem dX8_clash_75 : decode cX8_clash 75 = .ok (.iload_n 2, 1) := dk_28 (blk_at bk_cX8_clash_40 35 rfl)
theorem dX8_clash_76 : decode cX8_clash 76 = .ok (.iconst 4, 1) := dk_7 (blk_at bk_cX8_clash_40 36 rfl)
theorem dX8_clash_77 : decode cX8_clash 77 = .ok (.invokevirtual 284, 3) := dq_182 bk_cX8_clash_40 37 rfl rfl
theorem bk_cX8_clash_80 : (cX8_clash.data.toList.drop 80).take 18 = [42, 28, 8, 182, 1, 28, 184, 0, 79, 126, 184, 1, 40, 167, 0, 4, 3, 172] := by decide +kernel
theorem dX8_clash_80 : decode cX8_clash 80 = .ok (.aload_n 0, 1) := dk_42 (blk_at bk_cX8_clash_80 0 rfl)
theorem dX8_clash_81 : decode cX8_clash 81 = .ok (.iload_n 2, 1) := dk_28 (blk_at bk_cX8_clash_80 1 rfl)
theorem dX8_clash_82 : decode cX8_clash 82 = .ok (.iconst 5, 1) := dk_8 (blk_at bk_cX8_clash_80 2 rfl)
theorem dX8_clash_83 : decode cX8_clash 83 = .ok (.invokevirtual 284, 3) := dq_182 bk_cX8_clash_80 3 rfl rfl
theorem dX8_clash_86 : decode cX8_clash 86 = .ok (.invokestatic 79, 3) := dq_184 bk_cX8_clash_80 6 rfl rfl
theorem dX8_clash_89 : decode cX8_clash 89 = .ok (.iand, 1) := dk_126 (blk_at bk_cX8_clash_80 9 rfl)
theorem dX8_clash_90 : decode cX8_clash 90 = .ok (.invokestatic 296, 3) := dq_184 bk_cX8_clash_80 10 rfl rfl
theorem dX8_clash_93 : decode cX8_clash 93 = .ok (.goto 4, 3) := dq_167 bk_cX8_clash_80 13 rfl (by decide)
theorem dX8_clash_96 : decode cX8_clash 96 = .ok (.iconst 0, 1) := dk_3 (blk_at bk_cX8_clash_80 16 rfl)
theorem dX8_clash_97 : decode cX8_clash 97 = .ok (.ireturn, 1) := dk_172 (blk_at bk_cX8_clash_80 17 rfl)
theorem bk_cX8_common_0 : (cX8_common.data.toList.drop 0).take 40 = [42, 27, 182, 1, 17, 153, 0, 11, 42, 28, 182, 1, 17, 154, 0, 6, 16, 254, 172, 42, 27, 4, 182, 0, 67, 42, 28, 4, 182, 0, 67, 160, 0, 35, 42, 27, 5, 182, 0, 67] := by decide +kernel
theorem dX8_common_0 : decode cX8_common 0 = .ok (.aload_n 0, 1) := dk_42 (blk_at bk_cX8_common_0 0 rfl)
theorem dX8_common_1 : decode cX8_common 1 = .ok (.iload_n 1, 1) := dk_27 (blk_at bk_cX8_common_0 1 rfl)
theorem dX8_common_2 : decode cX8_common 2 = .ok (.invokevirtual 273, 3) := dq_182 bk_cX8_common_0 2 rfl rfl
theorem dX8_common_5 : decode cX8_common 5 = .ok (.ifCond .eq 11, 3) := dq_153 bk_cX8_common_0 5 rfl (by decide)
theorem dX8_common_8 : decode cX8_common 8 = .ok (.aload_n 0, 1) := dk_42 (blk_at bk_cX8_common_0 8 rfl)
theorem dX8_common_9 : decode cX8_common 9 = .ok (.iload_n 2, 1) := dk_28 (blk_at bk_cX8_common_0 9 rfl)
theorem dX8_common_10 : decode cX8_common 10 = .ok (.invokevirtual 273, 3) := dq_182 bk_cX8_common_0 10 rfl rfl
theorem dX8_common_13 : decode cX8_common 13 = .ok (.ifCond .ne 6, 3) := dq_154 bk_cX8_common_0 13 rfl (by decide)
theorem dX8_common_16 : decode cX8_common 16 = .ok (.bipush (-2), 2) := dq_16 bk_cX8_common_0 16 rfl (by decide)
theorem dX8_common_18 : decode cX8_common 18 = .ok (.ireturn, 1) := dk_172 (blk_at bk_cX8_common_0 18 rfl)
theorem dX8_common_19 : decode cX8_common 19 = .ok (.aload_n 0, 1) := dk_42 (blk_at bk_cX8_common_0 19 rfl)
theorem dX8_common_20 : decode cX8_common 20 = .ok (.iload_n 1, 1) := dk_27 (blk_at bk_cX8_common_0 20 rfl)
theorem dX8_common_21 : decode cX8_common 21 = .ok (.iconst 1, 1) := dk_4 (blk_at bk_cX8_common_0 21 rfl)
theorem dX8_common_22 : decode cX8_common 22 = .ok (.invokevirtual 67, 3) := dq_182 bk_cX8_common_0 22 rfl rfl
theorem dX8_common_25 : decode cX8_common 25 = .ok (.aload_n 0, 1) := dk_42 (blk_at bk_cX8_common_0 25 rfl)
theorem dX8_common_26 : decode cX8_common 26 = .ok (.iload_n 2, 1) := dk_28 (blk_at bk_cX8_common_0 26 rfl)
theorem dX8_common_27 : decode cX8_common 27 = .ok (.iconst 1, 1) := dk_4 (blk_at bk_cX8_common_0 27 rfl)
theorem dX8_common_28 : decode cX8_common 28 = .ok (.invokevirtual 67, 3) := dq_182 bk_cX8_common_0 28 rfl rfl
theorem dX8_common_31 : decode cX8_common 31 = .ok (.if_icmp .ne 35, 3) := dq_160 bk_cX8_common_0 31 rfl (by decide)
theorem dX8_common_34 : decode cX8_common 34 = .ok (.aload_n 0, 1) := dk_42 (blk_at bk_cX8_common_0 34 rfl)
theorem dX8_common_35 : decode cX8_common 35 = .ok (.iload_n 1, 1) := dk_27 (blk_at bk_cX8_common_0 35 rfl)
theorem dX8_common_36 : decode cX8_common 36 = .ok (.iconst 2, 1) := dk_5 (blk_at bk_cX8_common_0 36 rfl)
theorem dX8_common_37 : decode cX8_common 37 = .ok (.invokevirtual 67, 3) := dq_182 bk_cX8_common_0 37 rfl rfl
theorem bk_cX8_common_40 : (cX8_common.data.toList.drop 40).take 28 = [42, 28, 5, 182, 0, 67, 160, 0, 20, 42, 27, 182, 0, 71, 42, 28, 182, 0, 71, 126, 184, 1, 40, 167, 0, 4, 3, 172] := by decide +kernel
theorem dX8_common_40 : decode cX8_common 40 = .ok (.aload_n 0, 1) := dk_42 (blk_at bk_cX8_common_40 0 rfl)
theorem dX8_common_41 : decode cX8_common 41 = .ok (.iload_n 2, 1) := dk_28 (blk_at bk_cX8_common_40 1 rfl)
theorem dX8_common_42 : decode cX8_common 42 = .ok (.iconst 2, 1) := dk_5 (blk_at bk_cX8_common_40 2 rfl)
theorem dX8_common_43 : decode cX8_common 43 = .ok (.invokevirtual 67, 3) := dq_182 bk_cX8_common_40 3 rfl rfl
theorem dX8_common_46 : decode cX8_common 46 = .ok (.if_icmp .ne 20, 3) := dq_160 bk_cX8_common_40 6 rfl (by decide)
theorem dX8_common_49 : decode cX8_common 49 = .ok (.aload_n 0, 1) := dk_42 (blk_at bk_cX8_common_40 9 rfl)
theorem dX8_common_50 : decode cX8_common 50 = .ok (.iload_n 1, 1) := dk_27 (blk_at bk_cX8_common_40 10 rfl)
theorem dX8_common_51 : decode cX8_common 51 = .ok (.invokevirtual 71, 3) := dq_182 bk_cX8_common_40 11 rfl rfl
theorem dX8_common_54 : decode cX8_common 54 = .ok (.aload_n 0, 1) := dk_42 (blk_at bk_cX8_common_40 14 rfl)
theorem dX8_common_55 : decode cX8_common 55 = .ok (.iload_n 2, 1) := dk_28 (blk_at bk_cX8_common_40 15 rfl)
theorem dX8_common_56 : decode cX8_common 56 = .ok (.invokevirtual 71, 3) := dq_182 bk_cX8_common_40 16 rfl rfl
theorem dX8_common_59 : decode cX8_common 59 = .ok (.iand, 1) := dk_126 (blk_at bk_cX8_common_40 19 rfl)
theorem dX8_common_60 : decode cX8_common 60 = .ok (.invokestatic 296, 3) := dq_184 bk_cX8_common_40 20 rfl rfl
theorem dX8_common_63 : decode cX8_common 63 = .ok (.goto 4, 3) := dq_167 bk_cX8_common_40 23 rfl (by decide)
theorem dX8_common_66 : decode cX8_common 66 = .ok (.iconst 0, 1) := dk_3 (blk_at bk_cX8_common_40 26 rfl)
theorem dX8_common_67 : decode cX8_common 67 = .ok (.ireturn, 1) := dk_172 (blk_at bk_cX8_common_40 27 rfl)
theorem bk_cX8_pairs_0 : (cX8_pairs.data.toList.drop 0).take 40 = [42, 27, 182, 1, 9, 153, 0, 23, 42, 28, 182, 0, 61, 153, 0, 15, 29, 133, 9, 20, 0, 55, 184, 0, 45, 154, 0, 6, 16, 254, 172, 3, 54, 4, 3, 54, 5, 21, 5, 42] := by decide +kernel
theorem dX8_pairs_0 : decode cX8_pairs 0 = .ok (.aload_n 0, 1) := dk_42 (blk_at bk_cX8_pairs_0 0 rfl)
theorem dX8_pairs_1 : decode cX8_pairs 1 = .ok (.iload_n 1, 1) := dk_27 (blk_at bk_cX8_pairs_0 1 rfl)
theorem dX8_pairs_2 : decode cX8_pairs 2 = .ok (.invokevirtual 265, 3) := dq_182 bk_cX8_pairs_0 2 rfl rfl
theorem dX8_pairs_5 : decode cX8_pairs 5 = .ok (.ifCond .eq 23, 3) := dq_153 bk_cX8_pairs_0 5 rfl (by decide)
theorem dX8_pairs_8 : decode cX8_pairs 8 = .ok (.aload_n 0, 1) := dk_42 (blk_at bk_cX8_pairs_0 8 rfl)
theorem dX8_pairs_9 : decode cX8_pairs 9 = .ok (.iload_n 2, 1) := dk_28 (blk_at bk_cX8_pairs_0 9 rfl)
theorem dX8_pairs_10 : decode cX8_pairs 10 = .ok (.invokevirtual 61, 3) := dq_182 bk_cX8_pairs_0 10 rfl rfl
theorem dX8_pairs_13 : decode cX8_pairs 13 = .ok (.ifCond .eq 15, 3) := dq_153 bk_cX8_pairs_0 13 rfl (by decide)
theorem dX8_pairs_16 : decode cX8_pairs 16 = .ok (.iload_n 3, 1) := dk_29 (blk_at bk_cX8_pairs_0 16 rfl)
theorem dX8_pairs_17 : decode cX8_pairs 17 = .ok (.i2l, 1) := dk_133 (blk_at bk_cX8_pairs_0 17 rfl)
theorem dX8_pairs_18 : decode cX8_pairs 18 = .ok (.lconst 0, 1) := dk_9 (blk_at bk_cX8_pairs_0 18 rfl)
theorem dX8_pairs_19 : decode cX8_pairs 19 = .ok (.ldc2_w 55, 3) := dq_20 bk_cX8_pairs_0 19 rfl rfl
theorem dX8_pairs_22 : decode cX8_pairs 22 = .ok (.invokestatic 45, 3) := dq_184 bk_cX8_pairs_0 22 rfl rfl
theorem dX8_pairs_25 : decode cX8_pairs 25 = .ok (.ifCond .ne 6, 3) := dq_154 bk_cX8_pairs_0 25 rfl (by decide)
theorem dX8_pairs_28 : decode cX8_pairs 28 = .ok (.bipush (-2), 2) := dq_16 bk_cX8_pairs_0 28 rfl (by decide)
theorem dX8_pairs_30 : decode cX8_pairs 30 = .ok (.ireturn, 1) := dk_172 (blk_at bk_cX8_pairs_0 30 rfl)
theorem dX8_pairs_31 : decode cX8_pairs 31 = .ok (.iconst 0, 1) := dk_3 (blk_at bk_cX8_pairs_0 31 rfl)
theorem dX8_pairs_32 : decode cX8_pairs 32 = .ok (.istore 4, 2) := dq_54 bk_cX8_pairs_0 32 rfl rfl
theorem dX8_pairs_34 : decode cX8_pairs 34 = .ok (.iconst 0, 1) := dk_3 (blk_at bk_cX8_pairs_0 34 rfl)
theorem dX8_pairs_35 : decode cX8_pairs 35 = .ok (.istore 5, 2) := dq_54 bk_cX8_pairs_0 35 rfl rfl
theorem dX8_pairs_37 : decode cX8_pairs 37 = .ok (.iload 5, 2) := dq_21 bk_cX8_pairs_0 37 rfl rfl
theorem dX8_pairs_39 : decode cX8_pairs 39 = .ok (.aload_n 0, 1) := dk_42 (blk_at bk_cX8_pairs_0 39 rfl)
